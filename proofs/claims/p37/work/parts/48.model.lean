theorem dX12_keep_0 : decode cX12_keep 0 = .ok (.iload_n 2, 1) := by decide +kernel
theorem dX12_keep_1 : decode cX12_keep 1 = .ok (.ifCond .eq 13, 3) := by decide +kernel
theorem dX12_keep_14 : decode cX12_keep 14 = .ok (.iload_n 2, 1) := by decide +kernel
theorem dX12_keep_15 : decode cX12_keep 15 = .ok (.ireturn, 1) := by decide +kernel
theorem dX12_keep_4 : decode cX12_keep 4 = .ok (.aload_n 0, 1) := by decide +kernel
theorem dX12_keep_5 : decode cX12_keep 5 = .ok (.getfield 163, 3) := by decide +kernel
theorem dX12_keep_8 : decode cX12_keep 8 = .ok (.iload_n 1, 1) := by decide +kernel
theorem dX12_keep_9 : decode cX12_keep 9 = .ok (.aload_n 0, 1) := by decide +kernel
theorem dX12_keep_10 : decode cX12_keep 10 = .ok (.getfield 79, 3) := by decide +kernel
theorem dX12_keep_13 : decode cX12_keep 13 = .ok (.iastore, 1) := by decide +kernel
theorem dX12_readOneOf_0 : decode cX12_readOneOf 0 = .ok (.iload_n 1, 1) := by decide +kernel
theorem dX12_readOneOf_1 : decode cX12_readOneOf 1 = .ok (.istore_n 3, 1) := by decide +kernel
theorem dX12_readOneOf_2 : decode cX12_readOneOf 2 = .ok (.iload_n 3, 1) := by decide +kernel
theorem dX12_readOneOf_3 : decode cX12_readOneOf 3 = .ok (.iload_n 2, 1) := by decide +kernel
theorem dX12_readOneOf_4 : decode cX12_readOneOf 4 = .ok (.if_icmp .gt 17, 3) := by decide +kernel
theorem dX12_readOneOf_21 : decode cX12_readOneOf 21 = .ok (.iload_n 3, 1) := by decide +kernel
theorem dX12_readOneOf_22 : decode cX12_readOneOf 22 = .ok (.iload_n 2, 1) := by decide +kernel
theorem dX12_readOneOf_23 : decode cX12_readOneOf 23 = .ok (.if_icmp .le 9, 3) := by decide +kernel
theorem dX12_readOneOf_32 : decode cX12_readOneOf 32 = .ok (.aload_n 0, 1) := by decide +kernel
theorem dX12_readOneOf_33 : decode cX12_readOneOf 33 = .ok (.iload_n 3, 1) := by decide +kernel
theorem dX12_readOneOf_34 : decode cX12_readOneOf 34 = .ok (.iload_n 1, 1) := by decide +kernel
theorem dX12_readOneOf_35 : decode cX12_readOneOf 35 = .ok (.isub, 1) := by decide +kernel
theorem dX12_readOneOf_36 : decode cX12_readOneOf 36 = .ok (.putfield 79, 3) := by decide +kernel
theorem dX12_readOneOf_39 : decode cX12_readOneOf 39 = .ok (.aload_n 0, 1) := by decide +kernel
theorem dX12_readOneOf_40 : decode cX12_readOneOf 40 = .ok (.invokevirtual 82, 3) := by decide +kernel
theorem dX12_readOneOf_43 : decode cX12_readOneOf 43 = .ok (.iconst 1, 1) := by decide +kernel
theorem dX12_readOneOf_44 : decode cX12_readOneOf 44 = .ok (.ireturn, 1) := by decide +kernel
theorem dX12_readOneOf_26 : decode cX12_readOneOf 26 = .ok (.aload_n 0, 1) := by decide +kernel
theorem dX12_readOneOf_27 : decode cX12_readOneOf 27 = .ok (.iconst 1, 1) := by decide +kernel
theorem dX12_readOneOf_28 : decode cX12_readOneOf 28 = .ok (.invokevirtual 72, 3) := by decide +kernel
theorem dX12_readOneOf_31 : decode cX12_readOneOf 31 = .ok (.ireturn, 1) := by decide +kernel
theorem dX12_readOneOf_7 : decode cX12_readOneOf 7 = .ok (.aload_n 0, 1) := by decide +kernel
theorem dX12_readOneOf_8 : decode cX12_readOneOf 8 = .ok (.iload_n 3, 1) := by decide +kernel
theorem dX12_readOneOf_9 : decode cX12_readOneOf 9 = .ok (.invokevirtual 213, 3) := by decide +kernel
theorem dX12_readOneOf_12 : decode cX12_readOneOf 12 = .ok (.ifCond .ne 9, 3) := by decide +kernel
theorem dX12_readOneOf_15 : decode cX12_readOneOf 15 = .ok (.iinc 3 1, 3) := by decide +kernel
theorem dX12_readOneOf_18 : decode cX12_readOneOf 18 = .ok (.goto (-16), 3) := by decide +kernel
theorem dX12_readStir_0 : decode cX12_readStir 0 = .ok (.aload_n 0, 1) := by decide +kernel
theorem dX12_readStir_1 : decode cX12_readStir 1 = .ok (.iload_n 1, 1) := by decide +kernel
theorem dX12_readStir_2 : decode cX12_readStir 2 = .ok (.iconst 1, 1) := by decide +kernel
theorem dX12_readStir_3 : decode cX12_readStir 3 = .ok (.iadd, 1) := by decide +kernel
theorem dX12_readStir_4 : decode cX12_readStir 4 = .ok (.aload_n 0, 1) := by decide +kernel
theorem dX12_readStir_5 : decode cX12_readStir 5 = .ok (.bipush 8, 2) := by decide +kernel
theorem dX12_readStir_7 : decode cX12_readStir 7 = .ok (.bipush 9, 2) := by decide +kernel
theorem dX12_readStir_9 : decode cX12_readStir 9 = .ok (.invokevirtual 398, 3) := by decide +kernel
theorem dX12_readStir_12 : decode cX12_readStir 12 = .ok (.invokevirtual 401, 3) := by decide +kernel
theorem dX12_readStir_15 : decode cX12_readStir 15 = .ok (.ifCond .eq 41, 3) := by decide +kernel
theorem dX12_readStir_18 : decode cX12_readStir 18 = .ok (.aload_n 0, 1) := by decide +kernel
theorem dX12_readStir_19 : decode cX12_readStir 19 = .ok (.iload_n 1, 1) := by decide +kernel
theorem dX12_readStir_20 : decode cX12_readStir 20 = .ok (.iconst 2, 1) := by decide +kernel
theorem dX12_readStir_21 : decode cX12_readStir 21 = .ok (.iadd, 1) := by decide +kernel
theorem dX12_readStir_22 : decode cX12_readStir 22 = .ok (.aload_n 0, 1) := by decide +kernel
theorem dX12_readStir_23 : decode cX12_readStir 23 = .ok (.iconst 0, 1) := by decide +kernel
theorem dX12_readStir_24 : decode cX12_readStir 24 = .ok (.iconst 5, 1) := by decide +kernel
theorem dX12_readStir_25 : decode cX12_readStir 25 = .ok (.invokevirtual 200, 3) := by decide +kernel
theorem dX12_readStir_28 : decode cX12_readStir 28 = .ok (.invokevirtual 401, 3) := by decide +kernel
theorem dX12_readStir_31 : decode cX12_readStir 31 = .ok (.ifCond .eq 25, 3) := by decide +kernel
theorem dX12_readStir_34 : decode cX12_readStir 34 = .ok (.aload_n 0, 1) := by decide +kernel
theorem dX12_readStir_35 : decode cX12_readStir 35 = .ok (.iload_n 1, 1) := by decide +kernel
theorem dX12_readStir_36 : decode cX12_readStir 36 = .ok (.iconst 3, 1) := by decide +kernel
theorem dX12_readStir_37 : decode cX12_readStir 37 = .ok (.iadd, 1) := by decide +kernel
theorem dX12_readStir_38 : decode cX12_readStir 38 = .ok (.aload_n 0, 1) := by decide +kernel
theorem dX12_readStir_39 : decode cX12_readStir 39 = .ok (.bipush 10, 2) := by decide +kernel
theorem dX12_readStir_41 : decode cX12_readStir 41 = .ok (.bipush 11, 2) := by decide +kernel
theorem dX12_readStir_43 : decode cX12_readStir 43 = .ok (.invokevirtual 398, 3) := by decide +kernel
theorem dX12_readStir_46 : decode cX12_readStir 46 = .ok (.invokevirtual 401, 3) := by decide +kernel
theorem dX12_readStir_49 : decode cX12_readStir 49 = .ok (.ifCond .eq 7, 3) := by decide +kernel
theorem dX12_readStir_52 : decode cX12_readStir 52 = .ok (.iconst 1, 1) := by decide +kernel
theorem dX12_readStir_53 : decode cX12_readStir 53 = .ok (.goto 4, 3) := by decide +kernel
theorem dX12_readStir_57 : decode cX12_readStir 57 = .ok (.ireturn, 1) := by decide +kernel
theorem dX12_readStir_56 : decode cX12_readStir 56 = .ok (.iconst 0, 1) := by decide +kernel
theorem dX12_readPour_0 : decode cX12_readPour 0 = .ok (.aload_n 0, 1) := by decide +kernel
theorem dX12_readPour_1 : decode cX12_readPour 1 = .ok (.iload_n 1, 1) := by decide +kernel
theorem dX12_readPour_2 : decode cX12_readPour 2 = .ok (.iconst 1, 1) := by decide +kernel
theorem dX12_readPour_3 : decode cX12_readPour 3 = .ok (.iadd, 1) := by decide +kernel
theorem dX12_readPour_4 : decode cX12_readPour 4 = .ok (.aload_n 0, 1) := by decide +kernel
theorem dX12_readPour_5 : decode cX12_readPour 5 = .ok (.iconst 0, 1) := by decide +kernel
theorem dX12_readPour_6 : decode cX12_readPour 6 = .ok (.iconst 5, 1) := by decide +kernel
theorem dX12_readPour_7 : decode cX12_readPour 7 = .ok (.invokevirtual 200, 3) := by decide +kernel
theorem dX12_readPour_10 : decode cX12_readPour 10 = .ok (.invokevirtual 401, 3) := by decide +kernel
theorem dX12_readPour_13 : decode cX12_readPour 13 = .ok (.ifCond .eq 40, 3) := by decide +kernel
theorem dX12_readPour_16 : decode cX12_readPour 16 = .ok (.aload_n 0, 1) := by decide +kernel
theorem dX12_readPour_17 : decode cX12_readPour 17 = .ok (.iload_n 1, 1) := by decide +kernel
theorem dX12_readPour_18 : decode cX12_readPour 18 = .ok (.iconst 2, 1) := by decide +kernel
theorem dX12_readPour_19 : decode cX12_readPour 19 = .ok (.iadd, 1) := by decide +kernel
theorem dX12_readPour_20 : decode cX12_readPour 20 = .ok (.aload_n 0, 1) := by decide +kernel
theorem dX12_readPour_21 : decode cX12_readPour 21 = .ok (.iconst 0, 1) := by decide +kernel
theorem dX12_readPour_22 : decode cX12_readPour 22 = .ok (.iconst 5, 1) := by decide +kernel
theorem dX12_readPour_23 : decode cX12_readPour 23 = .ok (.invokevirtual 200, 3) := by decide +kernel
theorem dX12_readPour_26 : decode cX12_readPour 26 = .ok (.invokevirtual 401, 3) := by decide +kernel
theorem dX12_readPour_29 : decode cX12_readPour 29 = .ok (.ifCond .eq 24, 3) := by decide +kernel
theorem dX12_readPour_32 : decode cX12_readPour 32 = .ok (.aload_n 0, 1) := by decide +kernel
theorem dX12_readPour_33 : decode cX12_readPour 33 = .ok (.iload_n 1, 1) := by decide +kernel
theorem dX12_readPour_34 : decode cX12_readPour 34 = .ok (.iconst 3, 1) := by decide +kernel
theorem dX12_readPour_35 : decode cX12_readPour 35 = .ok (.iadd, 1) := by decide +kernel
theorem dX12_readPour_36 : decode cX12_readPour 36 = .ok (.aload_n 0, 1) := by decide +kernel
theorem dX12_readPour_37 : decode cX12_readPour 37 = .ok (.iconst 1, 1) := by decide +kernel
theorem dX12_readPour_38 : decode cX12_readPour 38 = .ok (.bipush 9, 2) := by decide +kernel
theorem dX12_readPour_40 : decode cX12_readPour 40 = .ok (.invokevirtual 200, 3) := by decide +kernel
theorem dX12_readPour_43 : decode cX12_readPour 43 = .ok (.invokevirtual 401, 3) := by decide +kernel
theorem dX12_readPour_46 : decode cX12_readPour 46 = .ok (.ifCond .eq 7, 3) := by decide +kernel
theorem dX12_readPour_49 : decode cX12_readPour 49 = .ok (.iconst 1, 1) := by decide +kernel
theorem dX12_readPour_50 : decode cX12_readPour 50 = .ok (.goto 4, 3) := by decide +kernel
theorem dX12_readPour_54 : decode cX12_readPour 54 = .ok (.ireturn, 1) := by decide +kernel
theorem dX12_readPour_53 : decode cX12_readPour 53 = .ok (.iconst 0, 1) := by decide +kernel
set_option maxRecDepth 100000 in
theorem ggX12_readOneOf_X12_go : GoodIn wsX12_readOneOf wsX12_go := goodIn_r _ [27, 28, 29, 30, 22, 31, 7, 32, 8, 33, 15, 16, 34, 35, 5, 36, 37, 38, 39, 40, 41, 42, 43, 44, 45, 46, 47, 48, 49, 50, 51, 52, 53, 54, 55, 56, 57, 58, 59, 60, 61, 62, 63, 64, 65, 66, 67, 68, 69, 70, 71, 72, 73, 74, 75, 76, 77, 78, 79, 80, 81, 82, 83, 84, 85, 86, 87, 88, 89, 90, 91, 92, 93, 94, 95] rfl (by decide +kernel)
set_option maxRecDepth 100000 in
theorem ggX12_readOneOf_X12_bad : GoodIn wsX12_readOneOf wsX12_bad := goodIn_r _ [20, 7, 21, 22, 23, 44, 45, 46, 47, 48, 49, 50, 51, 52, 53, 54, 55, 56, 57, 58, 59, 60, 61, 62, 63, 64, 65, 66, 67, 68, 69, 70, 71, 72, 73, 74, 75, 76, 77, 78, 79, 80, 81, 82, 83, 84, 85, 86, 87, 88, 89, 90, 91, 92, 93, 94, 95] rfl (by decide +kernel)
set_option maxRecDepth 100000 in
theorem ggX12_readOneOf_X12_isWord : GoodIn wsX12_readOneOf wsX12_isWord := goodIn_r _ [6, 7, 8, 9, 10, 5, 11, 12, 13, 14, 15, 16, 44, 45, 46, 47, 48, 49, 50, 51, 52, 53, 54, 55, 56, 57, 58, 59, 60, 61, 62, 63, 64, 65, 66, 67, 68, 69, 70, 71, 72, 73, 74, 75, 76, 77, 78, 79, 80, 81, 82, 83, 84, 85, 86, 87, 88, 89, 90, 91, 92, 93, 94, 95] rfl (by decide +kernel)
set_option maxRecDepth 100000 in
theorem ggX12_readStir_X12_readOneOf : GoodIn wsX12_readStir wsX12_readOneOf := goodIn_r _ [5, 6, 7, 8, 9, 4, 10, 11, 12, 13, 14, 15, 16, 17, 18, 19, 20, 21, 22, 23, 24, 25, 26, 27, 28, 29, 30, 31, 32, 33, 34, 35, 36, 37, 38, 39, 40, 41, 42, 43, 44, 45, 46, 47, 60, 61, 62, 63, 64, 65, 66, 67, 68, 69, 70, 71, 72, 73, 74, 75, 76, 77, 78, 79, 80, 81, 82, 83, 84, 85, 86, 87, 88, 89, 90, 91, 92, 93, 94, 95, 96, 97, 98, 99, 100, 101, 102, 103, 104, 105, 106, 107, 108, 109, 110, 111] rfl (by decide +kernel)
set_option maxRecDepth 100000 in
theorem ggX12_readStir_X12_keep : GoodIn wsX12_readStir wsX12_keep := goodIn_r _ [51, 52, 6, 60, 61, 62, 63, 64, 65, 66, 67, 68, 69, 70, 71, 72, 73, 74, 75, 76, 77, 78, 79, 80, 81, 82, 83, 84, 85, 86, 87, 88, 89, 90, 91, 92, 93, 94, 95, 96, 97, 98, 99, 100, 101, 102, 103, 104, 105, 106, 107, 108, 109, 110, 111] rfl (by decide +kernel)
set_option maxRecDepth 100000 in
theorem ggX12_readStir_X12_readNumber : GoodIn wsX12_readStir wsX12_readNumber := goodIn_r _ [56, 11, 37, 6, 21, 22, 23, 4, 24, 25, 26, 27, 57, 58, 59, 28, 29, 30, 31, 32, 33, 34, 35, 36, 12, 19, 20, 38, 39, 40, 41, 42, 43, 44, 45, 46, 47, 60, 61, 62, 63, 64, 65, 66, 67, 68, 69, 70, 71, 72, 73, 74, 75, 76, 77, 78, 79, 80, 81, 82, 83, 84, 85, 86, 87, 88, 89, 90, 91, 92, 93, 94, 95, 96, 97, 98, 99, 100, 101, 102, 103, 104, 105, 106, 107, 108, 109, 110, 111] rfl (by decide +kernel)
set_option maxRecDepth 100000 in
theorem ggX12_readPour_X12_readNumber : GoodIn wsX12_readPour wsX12_readNumber := goodIn_r _ [5, 6, 7, 8, 9, 10, 11, 4, 12, 13, 14, 15, 16, 17, 18, 19, 20, 21, 22, 23, 24, 25, 26, 27, 28, 29, 30, 31, 32, 33, 34, 35, 36, 37, 38, 39, 40, 46, 47, 48, 49, 50, 51, 52, 53, 54, 55, 56, 57, 58, 59, 60, 61, 62, 63, 64, 65, 66, 67, 68, 69, 70, 71, 72, 73, 74, 75, 76, 77, 78, 79, 80, 81, 82, 83, 84, 85, 86, 87, 88, 89, 90, 91, 92, 93, 94, 95, 96, 97] rfl (by decide +kernel)
set_option maxRecDepth 100000 in
theorem ggX12_readPour_X12_keep : GoodIn wsX12_readPour wsX12_keep := goodIn_r _ [44, 45, 8, 46, 47, 48, 49, 50, 51, 52, 53, 54, 55, 56, 57, 58, 59, 60, 61, 62, 63, 64, 65, 66, 67, 68, 69, 70, 71, 72, 73, 74, 75, 76, 77, 78, 79, 80, 81, 82, 83, 84, 85, 86, 87, 88, 89, 90, 91, 92, 93, 94, 95, 96, 97] rfl (by decide +kernel)
set_option maxRecDepth 100000 in
theorem gX12_readOneOf_X12_go : GoodIn wsX12_readOneOf (wsV RX12 82 RX12 yX12_go wsX12_go) := goodIn_app (goodIn_of _ (by decide +kernel)) ggX12_readOneOf_X12_go
set_option maxRecDepth 100000 in
theorem gX12_readOneOf_X12_bad : GoodIn wsX12_readOneOf (wsV RX12 72 RX12 yX12_bad wsX12_bad) := goodIn_app (goodIn_of _ (by decide +kernel)) ggX12_readOneOf_X12_bad
set_option maxRecDepth 100000 in
theorem gX12_readOneOf_X12_isWord : GoodIn wsX12_readOneOf (wsV RX12 213 RX12 yX12_isWord wsX12_isWord) := goodIn_app (goodIn_of _ (by decide +kernel)) ggX12_readOneOf_X12_isWord
set_option maxRecDepth 100000 in
theorem gX12_readStir_X12_readOneOf : GoodIn wsX12_readStir (wsV RX12 398 RX12 yX12_readOneOf wsX12_readOneOf) := goodIn_app (goodIn_of _ (by decide +kernel)) ggX12_readStir_X12_readOneOf
set_option maxRecDepth 100000 in
theorem gX12_readStir_X12_keep : GoodIn wsX12_readStir (wsV RX12 401 RX12 yX12_keep wsX12_keep) := goodIn_app (goodIn_of _ (by decide +kernel)) ggX12_readStir_X12_keep
set_option maxRecDepth 100000 in
theorem gX12_readStir_X12_readNumber : GoodIn wsX12_readStir (wsV RX12 200 RX12 yX12_readNumber wsX12_readNumber) := goodIn_app (goodIn_of _ (by decide +kernel)) ggX12_readStir_X12_readNumber
set_option maxRecDepth 100000 in
theorem gX12_readPour_X12_readNumber : GoodIn wsX12_readPour (wsV RX12 200 RX12 yX12_readNumber wsX12_readNumber) := goodIn_app (goodIn_of _ (by decide +kernel)) ggX12_readPour_X12_readNumber
set_option maxRecDepth 100000 in
theorem gX12_readPour_X12_keep : GoodIn wsX12_readPour (wsV RX12 401 RX12 yX12_keep wsX12_keep) := goodIn_app (goodIn_of _ (by decide +kernel)) ggX12_readPour_X12_keep
/-- a line of a book: what it is, and its numbers within what that asks -/
def LineOk (w x y z : Int32) : Prop := (0 ≤ w.toInt ∧ w.toInt ≤ 5) ∧ (¬ w = nI 0 ∨ (0 ≤ x.toInt ∧ x.toInt ≤ 1 ∧ 0 ≤ y.toInt ∧ y.toInt ≤ 5 ∧ 0 ≤ z.toInt ∧ z.toInt ≤ 1)) ∧ (¬ w = nI 1 ∨ (0 ≤ x.toInt ∧ x.toInt ≤ 5 ∧ 0 ≤ y.toInt ∧ y.toInt ≤ 3)) ∧ ((¬ w = nI 2 ∧ ¬ w = nI 3) ∨ (1 ≤ z.toInt ∧ z.toInt ≤ 9))
def LB (f : Nat → Int32) (m : Nat) : Prop := ∀ k, k < m → LineOk (f (4 * k)) (f (4 * k + 1)) (f (4 * k + 2)) (f (4 * k + 3))
theorem LB_zero (f : Nat → Int32) : LB f 0 := fun _ h => absurd h (Nat.not_lt_zero _)
theorem LB_step {f g : Nat → Int32} {m : Nat} (h : LB f m) (he : ∀ j, j < 4 * m → g j = f j) (hn : LineOk (g (4 * m)) (g (4 * m + 1)) (g (4 * m + 2)) (g (4 * m + 3))) : LB g (m + 1) := by
  intro k hk
  by_cases e : k = m
  · rw [e]; exact hn
  · have h1 := h k (by omega)
    rw [he (4 * k) (by omega), he (4 * k + 1) (by omega), he (4 * k + 2) (by omega), he (4 * k + 3) (by omega)]
    exact h1
theorem lgc_eq (a b : Int64) (h : lg_cmp a b = 0) : a = b := by
  unfold lg_cmp at h
  split at h
  · exact absurd h (by decide)
  · split at h
    · assumption
    · exact absurd h (by decide)
theorem lgc_ne (a b : Int64) (h : lg_cmp a b ≠ 0) : ¬ a = b := by
  intro e
  apply h
  unfold lg_cmp
  have h2 : ¬ (b > b) := fun q => Int64.lt_irrefl q
  rw [e, if_neg h2, if_pos rfl]
theorem lineOk0 {x y z : Int32} (h1 : 0 ≤ x.toInt) (h2 : x.toInt ≤ 1) (h3 : 0 ≤ y.toInt) (h4 : y.toInt ≤ 5) (h5 : 0 ≤ z.toInt) (h6 : z.toInt ≤ 1) : LineOk (nI 0) x y z := ⟨by decide, Or.inr ⟨h1, h2, h3, h4, h5, h6⟩, Or.inl (by decide), Or.inl (by decide)⟩
theorem lineOk1 {x y z : Int32} (h1 : 0 ≤ x.toInt) (h2 : x.toInt ≤ 5) (h3 : 0 ≤ y.toInt) (h4 : y.toInt ≤ 3) : LineOk (nI 1) x y z := ⟨by decide, Or.inl (by decide), Or.inr ⟨h1, h2, h3, h4⟩, Or.inl (by decide)⟩
theorem lineOk2 {x y z : Int32} (h1 : 1 ≤ z.toInt) (h2 : z.toInt ≤ 9) : LineOk (nI 2) x y z := ⟨by decide, Or.inl (by decide), Or.inl (by decide), Or.inr ⟨h1, h2⟩⟩
theorem lineOk3 {x y z : Int32} (h1 : 1 ≤ z.toInt) (h2 : z.toInt ≤ 9) : LineOk (nI 3) x y z := ⟨by decide, Or.inl (by decide), Or.inl (by decide), Or.inr ⟨h1, h2⟩⟩
theorem lineOk4 {x y z : Int32} : LineOk (nI 4) x y z := ⟨by decide, Or.inl (by decide), Or.inl (by decide), Or.inl (by decide)⟩
theorem lineOk5 {x y z : Int32} : LineOk (nI 5) x y z := ⟨by decide, Or.inl (by decide), Or.inl (by decide), Or.inl (by decide)⟩
set_option maxRecDepth 20000 in
theorem lf_x_findInX_1 (nmF : Nat → Int64) (bq : Nat) (y : Int32) (wq : Int64) (k5 : Nat) (n8 : Nat) (hb6 : bq ≤ 6) (hy6 : y.toInt ≤ 6) (j6 : k5 ≤ 6) (hnf : ∀ j9, j9 < k5 → ¬ nmF (bq + j9) = wq) (hm10 : 6 - k5 < n8 + 1) (c11 : y ≤ nI k5) : ((-1 : Int32) = (-1 : Int32) ∧ (∀ j9, j9 < 6 → ((j9 : Nat) : Int) < y.toInt → ¬ nmF (bq + j9) = wq)) ∨ (∃ k9 : Nat, (k9 < 6 ∧ ((k9 : Nat) : Int) < y.toInt ∧ nmF (bq + k9) = wq) ∧ (-1 : Int32) = nI k9) := by
  refine Or.inl ⟨rfl, fun j9 h1 h2 => hnf j9 ?_⟩
  have b_y := ia_b y
  have b_wq := Int64.toInt_lt wq
  try have k_0 := ia_n k5 (by first | decide | omega)
  try have k_1 := ia_n k9 (by first | decide | omega)
  try simp only [ia_lt, ia_le, ia_eq, ia_m1, ia_0, ia_1, ne_eq, true_and, and_true, false_and, and_false, or_false, false_or, or_true, true_or, not_true_eq_false, not_false_eq_true] at *
  all_goals omega
set_option maxRecDepth 20000 in
theorem lf_x_findInX_2 (nmF : Nat → Int64) (bq : Nat) (y : Int32) (wq : Int64) (k5 : Nat) (n8 : Nat) (y12 : Int64) (hb6 : bq ≤ 6) (hy6 : y.toInt ≤ 6) (j6 : k5 ≤ 6) (hnf : ∀ j9, j9 < k5 → ¬ nmF (bq + j9) = wq) (hm10 : 6 - k5 < n8 + 1) (c11 : ¬ y ≤ nI k5) (e13 : y12 = nmF (bq + k5)) : (bq + k5) < 12 := by
  have b_y := ia_b y
  have b_wq := Int64.toInt_lt wq
  have b_y12 := Int64.toInt_lt y12
  try have k_0 := ia_n k5 (by first | decide | omega)
  try simp only [ia_lt, ia_le, ia_eq, ia_m1, ia_0, ia_1, ne_eq, true_and, and_true, false_and, and_false, or_false, false_or, or_true, true_or, not_true_eq_false, not_false_eq_true] at *
  all_goals omega
set_option maxRecDepth 20000 in
theorem lf_x_findInX_3 (nmF : Nat → Int64) (bq : Nat) (y : Int32) (wq : Int64) (k5 : Nat) (n8 : Nat) (y12 : Int64) (y14 : Int32) (hb6 : bq ≤ 6) (hy6 : y.toInt ≤ 6) (j6 : k5 ≤ 6) (hnf : ∀ j9, j9 < k5 → ¬ nmF (bq + j9) = wq) (hm10 : 6 - k5 < n8 + 1) (c11 : ¬ y ≤ nI k5) (e13 : y12 = nmF (bq + k5)) (e15 : y14 = lg_cmp y12 wq) (c16 : y14 ≠ 0) : (k5 + 1) ≤ 6 := by
  have b_y := ia_b y
  have b_y14 := ia_b y14
  have b_wq := Int64.toInt_lt wq
  have b_y12 := Int64.toInt_lt y12
  try have k_0 := ia_n k5 (by first | decide | omega)
  try simp only [ia_lt, ia_le, ia_eq, ia_m1, ia_0, ia_1, ne_eq, true_and, and_true, false_and, and_false, or_false, false_or, or_true, true_or, not_true_eq_false, not_false_eq_true] at *
  all_goals omega
set_option maxRecDepth 20000 in
theorem lf_x_findInX_4 (nmF : Nat → Int64) (bq : Nat) (y : Int32) (wq : Int64) (k5 : Nat) (n8 : Nat) (y12 : Int64) (y14 : Int32) (hb6 : bq ≤ 6) (hy6 : y.toInt ≤ 6) (j6 : k5 ≤ 6) (hnf : ∀ j9, j9 < k5 → ¬ nmF (bq + j9) = wq) (hm10 : 6 - k5 < n8 + 1) (c11 : ¬ y ≤ nI k5) (e13 : y12 = nmF (bq + k5)) (e15 : y14 = lg_cmp y12 wq) (c16 : y14 ≠ 0) : ∀ j9, j9 < (k5 + 1) → ¬ nmF (bq + j9) = wq := by
  intro j9 hj9
  by_cases h9 : j9 = k5
  · rw [h9, ← e13]; exact lgc_ne _ _ (by rw [← e15]; exact c16)
  · exact hnf j9 (by omega)
set_option maxRecDepth 20000 in
theorem lf_x_findInX_5 (nmF : Nat → Int64) (bq : Nat) (y : Int32) (wq : Int64) (k5 : Nat) (n8 : Nat) (y12 : Int64) (y14 : Int32) (hb6 : bq ≤ 6) (hy6 : y.toInt ≤ 6) (j6 : k5 ≤ 6) (hnf : ∀ j9, j9 < k5 → ¬ nmF (bq + j9) = wq) (hm10 : 6 - k5 < n8 + 1) (c11 : ¬ y ≤ nI k5) (e13 : y12 = nmF (bq + k5)) (e15 : y14 = lg_cmp y12 wq) (c16 : y14 ≠ 0) : 6 - (k5 + 1) < n8 := by
  have b_y := ia_b y
  have b_y14 := ia_b y14
  have b_wq := Int64.toInt_lt wq
  have b_y12 := Int64.toInt_lt y12
  try have k_0 := ia_n k5 (by first | decide | omega)
  try simp only [ia_lt, ia_le, ia_eq, ia_m1, ia_0, ia_1, ne_eq, true_and, and_true, false_and, and_false, or_false, false_or, or_true, true_or, not_true_eq_false, not_false_eq_true] at *
  all_goals omega
set_option maxRecDepth 20000 in
theorem lf_x_findInX_6 (nmF : Nat → Int64) (bq : Nat) (y : Int32) (wq : Int64) (k5 : Nat) (n8 : Nat) (y12 : Int64) (y14 : Int32) (hb6 : bq ≤ 6) (hy6 : y.toInt ≤ 6) (j6 : k5 ≤ 6) (hnf : ∀ j9, j9 < k5 → ¬ nmF (bq + j9) = wq) (hm10 : 6 - k5 < n8 + 1) (c11 : ¬ y ≤ nI k5) (e13 : y12 = nmF (bq + k5)) (e15 : y14 = lg_cmp y12 wq) (c16 : y14 = 0) : ((nI k5) = (-1 : Int32) ∧ (∀ j9, j9 < 6 → ((j9 : Nat) : Int) < y.toInt → ¬ nmF (bq + j9) = wq)) ∨ (∃ k9 : Nat, (k9 < 6 ∧ ((k9 : Nat) : Int) < y.toInt ∧ nmF (bq + k9) = wq) ∧ (nI k5) = nI k9) := by
  refine Or.inr ⟨k5, ⟨?_, ?_, ?_⟩, rfl⟩
  · have b_y := ia_b y
    have b_y14 := ia_b y14
    have b_wq := Int64.toInt_lt wq
    have b_y12 := Int64.toInt_lt y12
    try have k_0 := ia_n k5 (by first | decide | omega)
    try have k_1 := ia_n k9 (by first | decide | omega)
    try simp only [ia_lt, ia_le, ia_eq, ia_m1, ia_0, ia_1, ne_eq, true_and, and_true, false_and, and_false, or_false, false_or, or_true, true_or, not_true_eq_false, not_false_eq_true] at *
    all_goals omega
  · have b_y := ia_b y
    have b_y14 := ia_b y14
    have b_wq := Int64.toInt_lt wq
    have b_y12 := Int64.toInt_lt y12
    try have k_0 := ia_n k5 (by first | decide | omega)
    try have k_1 := ia_n k9 (by first | decide | omega)
    try simp only [ia_lt, ia_le, ia_eq, ia_m1, ia_0, ia_1, ne_eq, true_and, and_true, false_and, and_false, or_false, false_or, or_true, true_or, not_true_eq_false, not_false_eq_true] at *
    all_goals omega
  · rw [← e13]; exact lgc_eq _ _ (by rw [← e15]; exact c16)
set_option maxRecDepth 20000 in
theorem lf_x_findInX_7   : 0 ≤ 6 := by
  try simp only [ia_lt, ia_le, ia_eq, ia_m1, ia_0, ia_1, ne_eq, true_and, and_true, false_and, and_false, or_false, false_or, or_true, true_or, not_true_eq_false, not_false_eq_true] at *
  all_goals omega
set_option maxRecDepth 20000 in
theorem lf_x_findInX_8 (nmF : Nat → Int64) (bq : Nat) (wq : Int64) (hb6 : bq ≤ 6) : ∀ j9, j9 < 0 → ¬ nmF (bq + j9) = wq := by
  intro j9 hj9
  omega
set_option maxHeartbeats 4000000 in
set_option maxRecDepth 100000 in
theorem c_x_findInX (l : Launch) (dC : Nat → ClassId) (dI : Nat → Nat → Nat) (ky : Nat → ClassId) (nm : Nat) (nmF : Nat → Int64) (bq : Nat) (y : Int32) (wq : Int64) (hb6 : bq ≤ 6) (hy6 : y.toInt ≤ 6) : Met l yX12_findIn wsX12_findIn ({ frames := 0, cells := 0, slots := 0, locals := 0 }) (PcP dC dI ky [.ref nm, .int (nI bq), .int y, .long wq] [(nm, .inl (ky 1, 12, .inr (.inl nmF)))]) (vp_Si (fun r : Int32 => (r = (-1 : Int32) ∧ (∀ j9, j9 < 6 → ((j9 : Nat) : Int) < y.toInt → ¬ nmF (bq + j9) = wq)) ∨ (∃ k9 : Nat, (k9 < 6 ∧ ((k9 : Nat) : Int) < y.toInt ∧ nmF (bq + k9) = wq) ∧ r = nI k9))) 0 0 (fun _ => False) := by
  refine Met.ofW (cc := cX12_findIn) (maxL := 6) (ret := (some .int)) (by decide) rfl ?_
  intro p e s m args below meth c s₁ B hml hv
  obtain ⟨rfl, hP, hK⟩ := hv
  have hx := B.exec
  have hb := B.bytes
  have hr := B.returns
  have hts := atoms_spec (ws := wsX12_findIn) B.pre
  have hown : s.vm.findClass RX12 = some m.cls := findClass_of_methodNamed B.named
  have hlocks := B.notSynchronized
  have hl := lv_entry ([.ref nm, .int (nI bq), .int y, .long wq]) (n := 6) (Nat.le_of_ble_eq_true rfl)
  rw [lg_entry_eq]
  generalize (lg_sl ([.ref nm, .int (nI bq), .int y, .long wq]) ++ List.replicate (6 - (lg_sl ([.ref nm, .int (nI bq), .int y, .long wq])).length) Slot.unset).toArray = ls at hl ⊢
  have hl : lv_has ls 6 [(0, .ref nm), (1, .int (nI bq)), (2, .int y), (3, .long wq)] := hl
  refine q_name (fun Q hQ => ?_)
  generalize ([.ref nm, .int (nI bq), .int y, .long wq] : List Value).toArray = args at hts hQ ⊢
  refine lv_iconst (v := nI 0) hx hb dX12_findIn_0 (by decide) ?_
  refine lv_istore (lv' := [(5, .int (nI 0)), (0, .ref nm), (1, .int (nI bq)), (2, .int y), (3, .long wq)]) hx hb dX12_findIn_1 hl (by decide) rfl (fun ls hl => ?_)
  have hL7 : ∀ (n8 : Nat) (k5 : Nat), (k5 ≤ 6) → (∀ j9, j9 < k5 → ¬ nmF (bq + j9) = wq) → 6 - k5 < n8 → ∀ (ls : Array Slot), lv_has ls 6 [(5, .int (nI k5)), (0, .ref nm), (1, .int (nI bq)), (2, .int y), (3, .long wq)] → W p l e (headSpec wsX12_findIn ({ frames := 0, cells := 0, slots := 0, locals := 0 })).room s m args below meth c s.heap [] 0 0 Q (F0 m 3 ls []) := by
    intro n8
    induction n8 with
    | zero => intro k5 _ _ h9; exact absurd h9 (Nat.not_lt_zero _)
    | succ n8 ih9 =>
      intro k5 j6 hnf hm10 ls hl
      refine lv_iload hx hb dX12_findIn_3 (lv_at hl 0 rfl) ?_
      refine lv_iload_n hx hb dX12_findIn_5 rfl (lv_at hl 3 rfl) ?_
      refine lv_icmp_ge (tgt := 29) hx hb dX12_findIn_6 (by decide) (fun c11 => ?_) (fun c11 => ?_)
      · refine lv_iconst (v := (-1 : Int32)) hx hb dX12_findIn_29 (by decide) ?_
        rw [hQ]
        exact W.iret (v := (-1 : Int32)) hx hb hr (fun t9 ht9 hW9 => ⟨(-1 : Int32), rfl, (lf_x_findInX_1 nmF bq y wq k5 n8 hb6 hy6 j6 hnf hm10 c11), ht9⟩) (fun _ h => absurd h List.not_mem_nil) dX12_findIn_30
      · refine lv_aload_n hx hb dX12_findIn_9 rfl (lv_at hl 1 rfl) ?_
        refine lv_iload_n hx hb dX12_findIn_10 rfl (lv_at hl 2 rfl) ?_
        refine lv_iload hx hb dX12_findIn_11 (lv_at hl 0 rfl) ?_
        refine lv_iadd hx hb dX12_findIn_13 ?_
        refine r_ti (nI (bq + k5)) (nI_add _ _) ?_
        obtain ⟨y12, e13⟩ : ∃ z9, z9 = nmF (bq + k5) := ⟨_, rfl⟩
        refine r_lald hx hb hK hP 0 rfl (bq + k5) (lf_x_findInX_2 nmF bq y wq k5 n8 y12 hb6 hy6 j6 hnf hm10 c11 e13) (by decide) y12 e13.symm dX12_findIn_14 ?_
        refine lv_lload_n hx hb dX12_findIn_15 rfl (lv_at hl 4 rfl) ?_
        refine W.lcmp hx hb dX12_findIn_16 ?_
        refine lv_topi (fun y14 e15 => ?_)
        refine lv_if_ne (tgt := 23) hx hb dX12_findIn_17 (by decide) (fun c16 => ?_) (fun c16 => ?_)
        · refine lv_iinc (v := nI (k5 + 1)) (lv' := [(5, .int (nI (k5 + 1))), (0, .ref nm), (1, .int (nI bq)), (2, .int y), (3, .long wq)]) hx hb dX12_findIn_23 hl (k := 0) rfl (show nI k5 + nI 1 = nI (k5 + 1) from nI_add _ _) (by decide) rfl (fun ls hl => ?_)
          refine lv_goto (tgt := 3) hx hb dX12_findIn_26 (by decide) ?_
          exact ih9 (k5 + 1) (lf_x_findInX_3 nmF bq y wq k5 n8 y12 y14 hb6 hy6 j6 hnf hm10 c11 e13 e15 c16) (lf_x_findInX_4 nmF bq y wq k5 n8 y12 y14 hb6 hy6 j6 hnf hm10 c11 e13 e15 c16) (lf_x_findInX_5 nmF bq y wq k5 n8 y12 y14 hb6 hy6 j6 hnf hm10 c11 e13 e15 c16) _ (lv_sub hl [0, 1, 2, 3, 4] rfl)
        · refine lv_iload hx hb dX12_findIn_20 (lv_at hl 0 rfl) ?_
          rw [hQ]
          exact W.iret (v := nI k5) hx hb hr (fun t9 ht9 hW9 => ⟨nI k5, rfl, (lf_x_findInX_6 nmF bq y wq k5 n8 y12 y14 hb6 hy6 j6 hnf hm10 c11 e13 e15 c16), ht9⟩) (fun _ h => absurd h List.not_mem_nil) dX12_findIn_22
  exact hL7 ((6 - 0) + 1) 0 (lf_x_findInX_7) (lf_x_findInX_8 nmF bq wq hb6) (Nat.lt_succ_self _) _ (lv_sub hl [0, 1, 2, 3, 4] rfl)
set_option maxRecDepth 20000 in
theorem lf_x_keep0_1   : (nI 0) = nI 0 := by
  try have k_0 := ia_n 0 (by first | decide | omega)
  try simp only [ia_lt, ia_le, ia_eq, ia_m1, ia_0, ia_1, ne_eq, true_and, and_true, false_and, and_false, or_false, false_or, or_true, true_or, not_true_eq_false, not_false_eq_true] at *
  all_goals omega
set_option maxHeartbeats 4000000 in
set_option maxRecDepth 100000 in
theorem c_x_keep0 (l : Launch) (dC : Nat → ClassId) (dI : Nat → Nat → Nat) (ky : Nat → ClassId) (o : Nat) (kthrown : Int32) (ktape : Nat) (ktaped : Nat) (ksize : Nat) (klimit : Nat) (kto : Nat) (kfrom : Nat) (kkind : Int32) (knumber : Int32) (ksign : Int32) (kfault : Int32) (kplace : Int32) (kword : Int64) (ktold : Int32) (know : Nat) (kread : Nat) (kkept : Nat) (ksnaps : Nat) (kaside : Nat) (kname : Nat) (kreadName : Nat) (kkeptName : Nat) (kisKept : Nat) (konces : Nat) (ksnapMany : Nat) (khasCells : Int32) (kpoured : Nat) (kfar : Nat) (ksides : Nat) (ksideMany : Nat) (kwayDays : Int32) (khasWay : Int32) (klines : Nat) (kmet : Nat) (kmetMany : Nat) (ksunk : Nat) (ktrying : Nat) (ksunkMany : Nat) (ksending : Int32) (kfleets : Int32) (ktext : Nat) (ktexts : Nat) (kseed : Int32) (kline : Nat) (kwritten : Nat) (klineMany : Nat) (khasWritten : Int32) (knode : Nat) (knodes : Nat) (konesMany : Nat) (kwithin : Nat) (ktop : Nat) (x : Int32) (iv_ko_0 : ktaped ≤ 940) (iv_ko_1 : ksize ≤ 940) (iv_ko_2 : klimit ≤ 900) (iv_ko_3 : kto ≤ ksize) (iv_ko_4 : kfrom ≤ 940) (iv_ko_5 : ksnapMany ≤ 8) (iv_ko_6 : ksideMany ≤ 36) (iv_ko_7 : kmetMany ≤ 3) (iv_ko_8 : ksunkMany ≤ 36) (iv_ko_9 : ktexts ≤ 64) (iv_ko_10 : klineMany ≤ 40) (iv_ko_11 : knodes ≤ 60) (iv_ko_12 : konesMany ≤ 20) (iv_ko_13 : kwithin ≤ 8) (iv_ko_14 : ktop ≤ 59) : Met l yX12_keep wsX12_keep ({ frames := 0, cells := 0, slots := 0, locals := 0 }) (PcP dC dI ky [.ref o, .int x, .int (nI 0)] [(o, .inr (12, [.int kthrown, .ref ktape, .int (nI ktaped), .int (nI ksize), .int (nI klimit), .int (nI kto), .int (nI kfrom), .int kkind, .int knumber, .int ksign, .int kfault, .int kplace, .long kword, .int ktold, .ref know, .ref kread, .ref kkept, .ref ksnaps, .ref kaside, .ref kname, .ref kreadName, .ref kkeptName, .ref kisKept, .ref konces, .int (nI ksnapMany), .int khasCells, .ref kpoured, .ref kfar, .ref ksides, .int (nI ksideMany), .int kwayDays, .int khasWay, .ref klines, .ref kmet, .int (nI kmetMany), .ref ksunk, .ref ktrying, .int (nI ksunkMany), .int ksending, .int kfleets, .ref ktext, .int (nI ktexts), .int kseed, .ref kline, .ref kwritten, .int (nI klineMany), .int khasWritten, .ref knode, .int (nI knodes), .int (nI konesMany), .int (nI kwithin), .int (nI ktop)]))]) (vp_Si (fun r : Int32 => r = nI 0)) 0 0 (fun _ => False) := by
  refine Met.ofW (cc := cX12_keep) (maxL := 3) (ret := (some .boolean)) (by decide) rfl ?_
  intro p e s m args below meth c s₁ B hml hv
  obtain ⟨rfl, hP, hK⟩ := hv
  have hx := B.exec
  have hb := B.bytes
  have hr := B.returns
  have hts := atoms_spec (ws := wsX12_keep) B.pre
  have hown : s.vm.findClass RX12 = some m.cls := findClass_of_methodNamed B.named
  have hlocks := B.notSynchronized
  have hl := lv_entry ([.ref o, .int x, .int (nI 0)]) (n := 3) (Nat.le_of_ble_eq_true rfl)
  rw [lg_entry_eq]
  generalize (lg_sl ([.ref o, .int x, .int (nI 0)]) ++ List.replicate (3 - (lg_sl ([.ref o, .int x, .int (nI 0)])).length) Slot.unset).toArray = ls at hl ⊢
  have hl : lv_has ls 3 [(0, .ref o), (1, .int x), (2, .int (nI 0))] := hl
  refine q_name (fun Q hQ => ?_)
  generalize ([.ref o, .int x, .int (nI 0)] : List Value).toArray = args at hts hQ ⊢
  refine lv_iload_n hx hb dX12_keep_0 rfl (lv_at hl 2 rfl) ?_
  refine lv_if_eq (tgt := 14) hx hb dX12_keep_1 (by decide) (fun c1 => ?_) (fun c1 => absurd (by decide) c1)
  refine lv_iload_n hx hb dX12_keep_14 rfl (lv_at hl 2 rfl) ?_
  rw [hQ]
  exact W.zret (v := nI 0) hx hb hr (by decide) (fun t9 ht9 hW9 => ⟨nI 0, rfl, (lf_x_keep0_1), ht9⟩) (fun _ h => absurd h List.not_mem_nil) dX12_keep_15
set_option maxRecDepth 20000 in
theorem lf_x_keep1_1 (aq : Nat) (ha : aq < 160) : aq < 160 := by
  try simp only [ia_lt, ia_le, ia_eq, ia_m1, ia_0, ia_1, ne_eq, true_and, and_true, false_and, and_false, or_false, false_or, or_true, true_or, not_true_eq_false, not_false_eq_true] at *
  all_goals omega
set_option maxRecDepth 20000 in
theorem lf_x_keep1_2   : (nI 1) = nI 1 := by
  try have k_0 := ia_n 1 (by first | decide | omega)
  try simp only [ia_lt, ia_le, ia_eq, ia_m1, ia_0, ia_1, ne_eq, true_and, and_true, false_and, and_false, or_false, false_or, or_true, true_or, not_true_eq_false, not_false_eq_true] at *
  all_goals omega
set_option maxHeartbeats 4000000 in
set_option maxRecDepth 100000 in
theorem c_x_keep1 (l : Launch) (dC : Nat → ClassId) (dI : Nat → Nat → Nat) (ky : Nat → ClassId) (sz : Nat) (o : Nat) (kthrown : Int32) (ktape : Nat) (ktaped : Nat) (ksize : Nat) (klimit : Nat) (kto : Nat) (kfrom : Nat) (kkind : Int32) (knumber : Int32) (ksign : Int32) (kfault : Int32) (kplace : Int32) (kword : Int64) (ktold : Int32) (know : Nat) (kread : Nat) (kkept : Nat) (ksnaps : Nat) (kaside : Nat) (kname : Nat) (kreadName : Nat) (kkeptName : Nat) (kisKept : Nat) (konces : Nat) (ksnapMany : Nat) (khasCells : Int32) (kpoured : Nat) (kfar : Nat) (ksides : Nat) (ksideMany : Nat) (kwayDays : Int32) (khasWay : Int32) (klines : Nat) (kmet : Nat) (kmetMany : Nat) (ksunk : Nat) (ktrying : Nat) (ksunkMany : Nat) (ksending : Int32) (kfleets : Int32) (ktext : Nat) (ktexts : Nat) (kseed : Int32) (kline : Nat) (kwritten : Nat) (klineMany : Nat) (khasWritten : Int32) (knode : Nat) (knodes : Nat) (konesMany : Nat) (kwithin : Nat) (ktop : Nat) (klineF : Nat → Int32) (aq : Nat) (iv_ko_0 : ktaped ≤ 940) (iv_ko_1 : ksize ≤ 940) (iv_ko_2 : klimit ≤ 900) (iv_ko_3 : kto ≤ ksize) (iv_ko_4 : kfrom ≤ 940) (iv_ko_5 : ksnapMany ≤ 8) (iv_ko_6 : ksideMany ≤ 36) (iv_ko_7 : kmetMany ≤ 3) (iv_ko_8 : ksunkMany ≤ 36) (iv_ko_9 : ktexts ≤ 64) (iv_ko_10 : klineMany ≤ 40) (iv_ko_11 : knodes ≤ 60) (iv_ko_12 : konesMany ≤ 20) (iv_ko_13 : kwithin ≤ 8) (iv_ko_14 : ktop ≤ 59) (ha : aq < 160) : Met l yX12_keep wsX12_keep ({ frames := 0, cells := 0, slots := 0, locals := 0 }) (PcU dC dI ky [.ref o, .int (nI aq), .int (nI 1)] [(o, .inr (12, [.int kthrown, .ref ktape, .int (nI ktaped), .int (nI ksize), .int (nI klimit), .int (nI kto), .int (nI kfrom), .int kkind, .int knumber, .int ksign, .int kfault, .int kplace, .long kword, .int ktold, .ref know, .ref kread, .ref kkept, .ref ksnaps, .ref kaside, .ref kname, .ref kreadName, .ref kkeptName, .ref kisKept, .ref konces, .int (nI ksnapMany), .int khasCells, .ref kpoured, .ref kfar, .ref ksides, .int (nI ksideMany), .int kwayDays, .int khasWay, .ref klines, .ref kmet, .int (nI kmetMany), .ref ksunk, .ref ktrying, .int (nI ksunkMany), .int ksending, .int kfleets, .ref ktext, .int (nI ktexts), .int kseed, .ref kline, .ref kwritten, .int (nI klineMany), .int khasWritten, .ref knode, .int (nI knodes), .int (nI konesMany), .int (nI kwithin), .int (nI ktop)])), (kline, .inl (ky 0, 160, .inl klineF))] sz) (va_Qi (fun (r : Int32) (klineG : (Nat → Int32)) => (r = nI 1) ∧ (klineG = upd klineF aq ktold)) (BU dC dI ky (fun (klineG : (Nat → Int32)) => [(o, .inr (12, [.int kthrown, .ref ktape, .int (nI ktaped), .int (nI ksize), .int (nI klimit), .int (nI kto), .int (nI kfrom), .int kkind, .int knumber, .int ksign, .int kfault, .int kplace, .long kword, .int ktold, .ref know, .ref kread, .ref kkept, .ref ksnaps, .ref kaside, .ref kname, .ref kreadName, .ref kkeptName, .ref kisKept, .ref konces, .int (nI ksnapMany), .int khasCells, .ref kpoured, .ref kfar, .ref ksides, .int (nI ksideMany), .int kwayDays, .int khasWay, .ref klines, .ref kmet, .int (nI kmetMany), .ref ksunk, .ref ktrying, .int (nI ksunkMany), .int ksending, .int kfleets, .ref ktext, .int (nI ktexts), .int kseed, .ref kline, .ref kwritten, .int (nI klineMany), .int khasWritten, .ref knode, .int (nI knodes), .int (nI konesMany), .int (nI kwithin), .int (nI ktop)])), (kline, .inl (ky 0, 160, .inl klineG))]) (va_A [(o, .inr (12, [.int kthrown, .ref ktape, .int (nI ktaped), .int (nI ksize), .int (nI klimit), .int (nI kto), .int (nI kfrom), .int kkind, .int knumber, .int ksign, .int kfault, .int kplace, .long kword, .int ktold, .ref know, .ref kread, .ref kkept, .ref ksnaps, .ref kaside, .ref kname, .ref kreadName, .ref kkeptName, .ref kisKept, .ref konces, .int (nI ksnapMany), .int khasCells, .ref kpoured, .ref kfar, .ref ksides, .int (nI ksideMany), .int kwayDays, .int khasWay, .ref klines, .ref kmet, .int (nI kmetMany), .ref ksunk, .ref ktrying, .int (nI ksunkMany), .int ksending, .int kfleets, .ref ktext, .int (nI ktexts), .int kseed, .ref kline, .ref kwritten, .int (nI klineMany), .int khasWritten, .ref knode, .int (nI knodes), .int (nI konesMany), .int (nI kwithin), .int (nI ktop)])), (kline, .inl (ky 0, 160, .inl klineF))] sz)) (va_A [(o, .inr (12, [.int kthrown, .ref ktape, .int (nI ktaped), .int (nI ksize), .int (nI klimit), .int (nI kto), .int (nI kfrom), .int kkind, .int knumber, .int ksign, .int kfault, .int kplace, .long kword, .int ktold, .ref know, .ref kread, .ref kkept, .ref ksnaps, .ref kaside, .ref kname, .ref kreadName, .ref kkeptName, .ref kisKept, .ref konces, .int (nI ksnapMany), .int khasCells, .ref kpoured, .ref kfar, .ref ksides, .int (nI ksideMany), .int kwayDays, .int khasWay, .ref klines, .ref kmet, .int (nI kmetMany), .ref ksunk, .ref ktrying, .int (nI ksunkMany), .int ksending, .int kfleets, .ref ktext, .int (nI ktexts), .int kseed, .ref kline, .ref kwritten, .int (nI klineMany), .int khasWritten, .ref knode, .int (nI knodes), .int (nI konesMany), .int (nI kwithin), .int (nI ktop)])), (kline, .inl (ky 0, 160, .inl klineF))] sz)) 0 0 (va_A [(o, .inr (12, [.int kthrown, .ref ktape, .int (nI ktaped), .int (nI ksize), .int (nI klimit), .int (nI kto), .int (nI kfrom), .int kkind, .int knumber, .int ksign, .int kfault, .int kplace, .long kword, .int ktold, .ref know, .ref kread, .ref kkept, .ref ksnaps, .ref kaside, .ref kname, .ref kreadName, .ref kkeptName, .ref kisKept, .ref konces, .int (nI ksnapMany), .int khasCells, .ref kpoured, .ref kfar, .ref ksides, .int (nI ksideMany), .int kwayDays, .int khasWay, .ref klines, .ref kmet, .int (nI kmetMany), .ref ksunk, .ref ktrying, .int (nI ksunkMany), .int ksending, .int kfleets, .ref ktext, .int (nI ktexts), .int kseed, .ref kline, .ref kwritten, .int (nI klineMany), .int khasWritten, .ref knode, .int (nI knodes), .int (nI konesMany), .int (nI kwithin), .int (nI ktop)])), (kline, .inl (ky 0, 160, .inl klineF))] sz) := by
  refine Met.ofW (cc := cX12_keep) (maxL := 3) (ret := (some .boolean)) (by decide) rfl ?_
  intro p e s m args below meth c s₁ B hml hv
  obtain ⟨rfl, hsz, hP, hK, hD0⟩ := hv
  have hx := B.exec
  have hb := B.bytes
  have hr := B.returns
  have hts := atoms_spec (ws := wsX12_keep) B.pre
  have hown : s.vm.findClass RX12 = some m.cls := findClass_of_methodNamed B.named
  have hlocks := B.notSynchronized
  have hin12 : ∀ w ∈ u_ws RX12 TX12 52, w ∈ wsX12_keep := by decide +kernel
  subst hsz
  have hD := hD0.self (sz := s.heap.size)
  generalize hAe : va_A [(o, .inr (12, [.int kthrown, .ref ktape, .int (nI ktaped), .int (nI ksize), .int (nI klimit), .int (nI kto), .int (nI kfrom), .int kkind, .int knumber, .int ksign, .int kfault, .int kplace, .long kword, .int ktold, .ref know, .ref kread, .ref kkept, .ref ksnaps, .ref kaside, .ref kname, .ref kreadName, .ref kkeptName, .ref kisKept, .ref konces, .int (nI ksnapMany), .int khasCells, .ref kpoured, .ref kfar, .ref ksides, .int (nI ksideMany), .int kwayDays, .int khasWay, .ref klines, .ref kmet, .int (nI kmetMany), .ref ksunk, .ref ktrying, .int (nI ksunkMany), .int ksending, .int kfleets, .ref ktext, .int (nI ktexts), .int kseed, .ref kline, .ref kwritten, .int (nI klineMany), .int khasWritten, .ref knode, .int (nI knodes), .int (nI konesMany), .int (nI kwithin), .int (nI ktop)])), (kline, .inl (ky 0, 160, .inl klineF))] s.heap.size = A at hD ⊢
  have hA : ∀ q : Nat, s.heap.size ≤ q → A q := fun q h => by rw [← hAe]; exact Or.inr h
  have hS : va_S A s.heap s.heap [] := va_S.rf
  have hl := lv_entry ([.ref o, .int (nI aq), .int (nI 1)]) (n := 3) (Nat.le_of_ble_eq_true rfl)
  rw [lg_entry_eq]
  generalize (lg_sl ([.ref o, .int (nI aq), .int (nI 1)]) ++ List.replicate (3 - (lg_sl ([.ref o, .int (nI aq), .int (nI 1)])).length) Slot.unset).toArray = ls at hl ⊢
  have hl : lv_has ls 3 [(0, .ref o), (1, .int (nI aq)), (2, .int (nI 1))] := hl
  refine q_name (fun Q hQ => ?_)
  generalize ([.ref o, .int (nI aq), .int (nI 1)] : List Value).toArray = args at hts hQ ⊢
  refine lv_iload_n hx hb dX12_keep_0 rfl (lv_at hl 2 rfl) ?_
  refine lv_if_eq (tgt := 14) hx hb dX12_keep_1 (by decide) (fun c1 => absurd c1 (by decide)) (fun c1 => ?_)
  refine lv_aload_n hx hb dX12_keep_4 rfl (lv_at hl 0 rfl) ?_
  refine va_get (D := (dC, dI)) (ci := 12) (v := .ref kline) (C := RX12) (T := TX12) (N := 52) hx hb hts hin12 hown hK hP 0 rfl rfl 43 (by decide) (hts (.fieldLink RX12 163 "PorridgeSeaModel" "line" "[I") (List.mem_of_getElem? (i := 1) rfl)) (fun _ h9 => h9) rfl dX12_keep_5 ?_
  refine lv_iload_n hx hb dX12_keep_8 rfl (lv_at hl 1 rfl) ?_
  refine lv_aload_n hx hb dX12_keep_9 rfl (lv_at hl 0 rfl) ?_
  refine va_get (D := (dC, dI)) (ci := 12) (v := .int ktold) (C := RX12) (T := TX12) (N := 52) hx hb hts hin12 hown hK hP 0 rfl rfl 13 (by decide) (hts (.fieldLink RX12 79 "PorridgeSeaModel" "told" "I") (List.mem_of_getElem? (i := 2) rfl)) (fun _ h9 => h9) rfl dX12_keep_10 ?_
  refine r_iast (x := ktold) hx hb hK hP hD hS 1 rfl aq (lf_x_keep1_1 aq ha) (by decide) dX12_keep_13 (fun H locs hP hD hS => ?_)
  obtain ⟨g2, e3⟩ : ∃ z9, z9 = upd klineF aq ktold := ⟨_, rfl⟩
  rw [← e3] at hP hD
  have hP : va_P (dC, dI) vwCl [(o, .inr (12, [.int kthrown, .ref ktape, .int (nI ktaped), .int (nI ksize), .int (nI klimit), .int (nI kto), .int (nI kfrom), .int kkind, .int knumber, .int ksign, .int kfault, .int kplace, .long kword, .int ktold, .ref know, .ref kread, .ref kkept, .ref ksnaps, .ref kaside, .ref kname, .ref kreadName, .ref kkeptName, .ref kisKept, .ref konces, .int (nI ksnapMany), .int khasCells, .ref kpoured, .ref kfar, .ref ksides, .int (nI ksideMany), .int kwayDays, .int khasWay, .ref klines, .ref kmet, .int (nI kmetMany), .ref ksunk, .ref ktrying, .int (nI ksunkMany), .int ksending, .int kfleets, .ref ktext, .int (nI ktexts), .int kseed, .ref kline, .ref kwritten, .int (nI klineMany), .int khasWritten, .ref knode, .int (nI knodes), .int (nI konesMany), .int (nI kwithin), .int (nI ktop)])), (kline, .inl (ky 0, 160, .inl g2))] H := hP
  have hD : va_D A [(o, .inr (12, [.int kthrown, .ref ktape, .int (nI ktaped), .int (nI ksize), .int (nI klimit), .int (nI kto), .int (nI kfrom), .int kkind, .int knumber, .int ksign, .int kfault, .int kplace, .long kword, .int ktold, .ref know, .ref kread, .ref kkept, .ref ksnaps, .ref kaside, .ref kname, .ref kreadName, .ref kkeptName, .ref kisKept, .ref konces, .int (nI ksnapMany), .int khasCells, .ref kpoured, .ref kfar, .ref ksides, .int (nI ksideMany), .int kwayDays, .int khasWay, .ref klines, .ref kmet, .int (nI kmetMany), .ref ksunk, .ref ktrying, .int (nI ksunkMany), .int ksending, .int kfleets, .ref ktext, .int (nI ktexts), .int kseed, .ref kline, .ref kwritten, .int (nI klineMany), .int khasWritten, .ref knode, .int (nI knodes), .int (nI konesMany), .int (nI kwithin), .int (nI ktop)])), (kline, .inl (ky 0, 160, .inl g2))] := hD
  refine lv_iload_n hx hb dX12_keep_14 rfl (lv_at hl 2 rfl) ?_
  rw [hQ]
  exact W.zret (v := nI 1) hx hb hr (by decide) (fun t9 ht9 hW9 => ⟨⟨nI 1, g2, rfl, ⟨(lf_x_keep1_2), e3⟩, by rw [ht9]; exact hP, va_K.moved hW9.alike hK, hD⟩, hS.F ht9⟩) hS.2.2 dX12_keep_15
set_option maxRecDepth 20000 in
theorem lf_x_readOneOf_1 (fq : Nat) (lq : Nat) (k4 : Nat) (n8 : Nat) (hf : fq ≤ lq) (hlq : lq ≤ 31) (j5 : k4 ≤ 32) (j6 : fq ≤ k4) (hm10 : 32 - k4 < n8 + 1) (c11 : lq < k4) (c12 : k4 ≤ lq) : fq ≤ k4 := by
  try simp only [ia_lt, ia_le, ia_eq, ia_m1, ia_0, ia_1, ne_eq, true_and, and_true, false_and, and_false, or_false, false_or, or_true, true_or, not_true_eq_false, not_false_eq_true] at *
  all_goals omega
set_option maxRecDepth 20000 in
theorem lf_x_readOneOf_2 (fq : Nat) (lq : Nat) (k4 : Nat) (n8 : Nat) (hf : fq ≤ lq) (hlq : lq ≤ 31) (j5 : k4 ≤ 32) (j6 : fq ≤ k4) (hm10 : 32 - k4 < n8 + 1) (c11 : lq < k4) (c12 : k4 ≤ lq) : ((nI 1) = nI 1 ∧ (0 ≤ (nI (k4 - fq)).toInt ∧ (nI (k4 - fq)).toInt + ((fq : Nat) : Int) ≤ ((lq : Nat) : Int))) ∨ ((nI 1) = nI 0 ∧ (True)) := by
  try have k_0 := ia_n 1 (by first | decide | omega)
  try have k_1 := ia_n (k4 - fq) (by first | decide | omega)
  try have k_2 := ia_n 0 (by first | decide | omega)
  try simp only [ia_lt, ia_le, ia_eq, ia_m1, ia_0, ia_1, ne_eq, true_and, and_true, false_and, and_false, or_false, false_or, or_true, true_or, not_true_eq_false, not_false_eq_true] at *
  all_goals omega
set_option maxRecDepth 20000 in
theorem lf_x_readOneOf_3 (ktold : Int32) (fq : Nat) (lq : Nat) (k4 : Nat) (n8 : Nat) (hf : fq ≤ lq) (hlq : lq ≤ 31) (j5 : k4 ≤ 32) (j6 : fq ≤ k4) (hm10 : 32 - k4 < n8 + 1) (c11 : lq < k4) (c12 : lq < k4) : ((nI 0) = nI 1 ∧ (0 ≤ ktold.toInt ∧ ktold.toInt + ((fq : Nat) : Int) ≤ ((lq : Nat) : Int))) ∨ ((nI 0) = nI 0 ∧ (True)) := by
  have b_ktold := ia_b ktold
  try have k_0 := ia_n 0 (by first | decide | omega)
  try have k_1 := ia_n 1 (by first | decide | omega)
  try simp only [ia_lt, ia_le, ia_eq, ia_m1, ia_0, ia_1, ne_eq, true_and, and_true, false_and, and_false, or_false, false_or, or_true, true_or, not_true_eq_false, not_false_eq_true] at *
  all_goals omega
set_option maxRecDepth 20000 in
theorem lf_x_readOneOf_4 (fq : Nat) (lq : Nat) (k4 : Nat) (n8 : Nat) (hf : fq ≤ lq) (hlq : lq ≤ 31) (j5 : k4 ≤ 32) (j6 : fq ≤ k4) (hm10 : 32 - k4 < n8 + 1) (c11 : k4 ≤ lq) (c37 : k4 ≤ lq) : fq ≤ k4 := by
  try simp only [ia_lt, ia_le, ia_eq, ia_m1, ia_0, ia_1, ne_eq, true_and, and_true, false_and, and_false, or_false, false_or, or_true, true_or, not_true_eq_false, not_false_eq_true] at *
  all_goals omega
set_option maxRecDepth 20000 in
theorem lf_x_readOneOf_5 (fq : Nat) (lq : Nat) (k4 : Nat) (n8 : Nat) (hf : fq ≤ lq) (hlq : lq ≤ 31) (j5 : k4 ≤ 32) (j6 : fq ≤ k4) (hm10 : 32 - k4 < n8 + 1) (c11 : k4 ≤ lq) (c37 : k4 ≤ lq) : ((nI 1) = nI 1 ∧ (0 ≤ (nI (k4 - fq)).toInt ∧ (nI (k4 - fq)).toInt + ((fq : Nat) : Int) ≤ ((lq : Nat) : Int))) ∨ ((nI 1) = nI 0 ∧ (True)) := by
  try have k_0 := ia_n 1 (by first | decide | omega)
  try have k_1 := ia_n (k4 - fq) (by first | decide | omega)
  try have k_2 := ia_n 0 (by first | decide | omega)
  try simp only [ia_lt, ia_le, ia_eq, ia_m1, ia_0, ia_1, ne_eq, true_and, and_true, false_and, and_false, or_false, false_or, or_true, true_or, not_true_eq_false, not_false_eq_true] at *
  all_goals omega
set_option maxRecDepth 20000 in
theorem lf_x_readOneOf_6 (ktold : Int32) (fq : Nat) (lq : Nat) (k4 : Nat) (n8 : Nat) (hf : fq ≤ lq) (hlq : lq ≤ 31) (j5 : k4 ≤ 32) (j6 : fq ≤ k4) (hm10 : 32 - k4 < n8 + 1) (c11 : k4 ≤ lq) (c37 : lq < k4) : ((nI 0) = nI 1 ∧ (0 ≤ ktold.toInt ∧ ktold.toInt + ((fq : Nat) : Int) ≤ ((lq : Nat) : Int))) ∨ ((nI 0) = nI 0 ∧ (True)) := by
  have b_ktold := ia_b ktold
  try have k_0 := ia_n 0 (by first | decide | omega)
  try have k_1 := ia_n 1 (by first | decide | omega)
  try simp only [ia_lt, ia_le, ia_eq, ia_m1, ia_0, ia_1, ne_eq, true_and, and_true, false_and, and_false, or_false, false_or, or_true, true_or, not_true_eq_false, not_false_eq_true] at *
  all_goals omega
set_option maxRecDepth 20000 in
theorem lf_x_readOneOf_7 (fq : Nat) (lq : Nat) (k4 : Nat) (n8 : Nat) (hf : fq ≤ lq) (hlq : lq ≤ 31) (j5 : k4 ≤ 32) (j6 : fq ≤ k4) (hm10 : 32 - k4 < n8 + 1) (c11 : k4 ≤ lq) : (k4 + 1) ≤ 32 := by
  try simp only [ia_lt, ia_le, ia_eq, ia_m1, ia_0, ia_1, ne_eq, true_and, and_true, false_and, and_false, or_false, false_or, or_true, true_or, not_true_eq_false, not_false_eq_true] at *
  all_goals omega
set_option maxRecDepth 20000 in
theorem lf_x_readOneOf_8 (fq : Nat) (lq : Nat) (k4 : Nat) (n8 : Nat) (hf : fq ≤ lq) (hlq : lq ≤ 31) (j5 : k4 ≤ 32) (j6 : fq ≤ k4) (hm10 : 32 - k4 < n8 + 1) (c11 : k4 ≤ lq) : fq ≤ (k4 + 1) := by
  try simp only [ia_lt, ia_le, ia_eq, ia_m1, ia_0, ia_1, ne_eq, true_and, and_true, false_and, and_false, or_false, false_or, or_true, true_or, not_true_eq_false, not_false_eq_true] at *
  all_goals omega
set_option maxRecDepth 20000 in
theorem lf_x_readOneOf_9 (fq : Nat) (lq : Nat) (k4 : Nat) (n8 : Nat) (hf : fq ≤ lq) (hlq : lq ≤ 31) (j5 : k4 ≤ 32) (j6 : fq ≤ k4) (hm10 : 32 - k4 < n8 + 1) (c11 : k4 ≤ lq) : 32 - (k4 + 1) < n8 := by
  try simp only [ia_lt, ia_le, ia_eq, ia_m1, ia_0, ia_1, ne_eq, true_and, and_true, false_and, and_false, or_false, false_or, or_true, true_or, not_true_eq_false, not_false_eq_true] at *
  all_goals omega
set_option maxRecDepth 20000 in
theorem lf_x_readOneOf_10 (fq : Nat) (lq : Nat) (hf : fq ≤ lq) (hlq : lq ≤ 31) : fq ≤ 32 := by
  try simp only [ia_lt, ia_le, ia_eq, ia_m1, ia_0, ia_1, ne_eq, true_and, and_true, false_and, and_false, or_false, false_or, or_true, true_or, not_true_eq_false, not_false_eq_true] at *
  all_goals omega
set_option maxRecDepth 20000 in
theorem lf_x_readOneOf_11 (fq : Nat) (lq : Nat) (hf : fq ≤ lq) (hlq : lq ≤ 31) : fq ≤ fq := by
  try simp only [ia_lt, ia_le, ia_eq, ia_m1, ia_0, ia_1, ne_eq, true_and, and_true, false_and, and_false, or_false, false_or, or_true, true_or, not_true_eq_false, not_false_eq_true] at *
  all_goals omega
set_option maxHeartbeats 4000000 in
set_option maxRecDepth 100000 in
theorem c_x_readOneOf (l : Launch) (dC : Nat → ClassId) (dI : Nat → Nat → Nat) (ky : Nat → ClassId) (sz : Nat) (o : Nat) (kthrown : Int32) (ktape : Nat) (ktaped : Nat) (ksize : Nat) (klimit : Nat) (kto : Nat) (kfrom : Nat) (kkind : Int32) (knumber : Int32) (ksign : Int32) (kfault : Int32) (kplace : Int32) (kword : Int64) (ktold : Int32) (know : Nat) (kread : Nat) (kkept : Nat) (ksnaps : Nat) (kaside : Nat) (kname : Nat) (kreadName : Nat) (kkeptName : Nat) (kisKept : Nat) (konces : Nat) (ksnapMany : Nat) (khasCells : Int32) (kpoured : Nat) (kfar : Nat) (ksides : Nat) (ksideMany : Nat) (kwayDays : Int32) (khasWay : Int32) (klines : Nat) (kmet : Nat) (kmetMany : Nat) (ksunk : Nat) (ktrying : Nat) (ksunkMany : Nat) (ksending : Int32) (kfleets : Int32) (ktext : Nat) (ktexts : Nat) (kseed : Int32) (kline : Nat) (kwritten : Nat) (klineMany : Nat) (khasWritten : Int32) (knode : Nat) (knodes : Nat) (konesMany : Nat) (kwithin : Nat) (ktop : Nat) (ktapeF : Nat → Int32) (fq : Nat) (lq : Nat) (iv_ko_0 : ktaped ≤ 940) (iv_ko_1 : ksize ≤ 940) (iv_ko_2 : klimit ≤ 900) (iv_ko_3 : kto ≤ ksize) (iv_ko_4 : kfrom ≤ 940) (iv_ko_5 : ksnapMany ≤ 8) (iv_ko_6 : ksideMany ≤ 36) (iv_ko_7 : kmetMany ≤ 3) (iv_ko_8 : ksunkMany ≤ 36) (iv_ko_9 : ktexts ≤ 64) (iv_ko_10 : klineMany ≤ 40) (iv_ko_11 : knodes ≤ 60) (iv_ko_12 : konesMany ≤ 20) (iv_ko_13 : kwithin ≤ 8) (iv_ko_14 : ktop ≤ 59) (hf : fq ≤ lq) (hlq : lq ≤ 31) : Met l yX12_readOneOf wsX12_readOneOf ({ frames := 3, cells := 0, slots := 0, locals := 68 }) (PcU dC dI ky [.ref o, .int (nI fq), .int (nI lq)] [(o, .inr (12, [.int kthrown, .ref ktape, .int (nI ktaped), .int (nI ksize), .int (nI klimit), .int (nI kto), .int (nI kfrom), .int kkind, .int knumber, .int ksign, .int kfault, .int kplace, .long kword, .int ktold, .ref know, .ref kread, .ref kkept, .ref ksnaps, .ref kaside, .ref kname, .ref kreadName, .ref kkeptName, .ref kisKept, .ref konces, .int (nI ksnapMany), .int khasCells, .ref kpoured, .ref kfar, .ref ksides, .int (nI ksideMany), .int kwayDays, .int khasWay, .ref klines, .ref kmet, .int (nI kmetMany), .ref ksunk, .ref ktrying, .int (nI ksunkMany), .int ksending, .int kfleets, .ref ktext, .int (nI ktexts), .int kseed, .ref kline, .ref kwritten, .int (nI klineMany), .int khasWritten, .ref knode, .int (nI knodes), .int (nI konesMany), .int (nI kwithin), .int (nI ktop)])), (ktape, .inl (ky 0, 940, .inl ktapeF))] sz) (va_Qi (fun (r : Int32) (u : Nat × Nat × Int32 × Int32 × Int32 × Int32 × Int32 × Int64 × Int32) => match u with | (ktoG, kfromG, kkindG, knumberG, ksignG, kfaultG, kplaceG, kwordG, ktoldG) => ((r = nI 1 ∧ (0 ≤ ktoldG.toInt ∧ ktoldG.toInt + ((fq : Nat) : Int) ≤ ((lq : Nat) : Int))) ∨ (r = nI 0 ∧ (True))) ∧ (ktoG ≤ ksize) ∧ (kfromG ≤ 940)) (BU dC dI ky (fun (u : Nat × Nat × Int32 × Int32 × Int32 × Int32 × Int32 × Int64 × Int32) => match u with | (ktoG, kfromG, kkindG, knumberG, ksignG, kfaultG, kplaceG, kwordG, ktoldG) => [(o, .inr (12, [.int kthrown, .ref ktape, .int (nI ktaped), .int (nI ksize), .int (nI klimit), .int (nI ktoG), .int (nI kfromG), .int kkindG, .int knumberG, .int ksignG, .int kfaultG, .int kplaceG, .long kwordG, .int ktoldG, .ref know, .ref kread, .ref kkept, .ref ksnaps, .ref kaside, .ref kname, .ref kreadName, .ref kkeptName, .ref kisKept, .ref konces, .int (nI ksnapMany), .int khasCells, .ref kpoured, .ref kfar, .ref ksides, .int (nI ksideMany), .int kwayDays, .int khasWay, .ref klines, .ref kmet, .int (nI kmetMany), .ref ksunk, .ref ktrying, .int (nI ksunkMany), .int ksending, .int kfleets, .ref ktext, .int (nI ktexts), .int kseed, .ref kline, .ref kwritten, .int (nI klineMany), .int khasWritten, .ref knode, .int (nI knodes), .int (nI konesMany), .int (nI kwithin), .int (nI ktop)])), (ktape, .inl (ky 0, 940, .inl ktapeF))]) (va_A [(o, .inr (12, [.int kthrown, .ref ktape, .int (nI ktaped), .int (nI ksize), .int (nI klimit), .int (nI kto), .int (nI kfrom), .int kkind, .int knumber, .int ksign, .int kfault, .int kplace, .long kword, .int ktold, .ref know, .ref kread, .ref kkept, .ref ksnaps, .ref kaside, .ref kname, .ref kreadName, .ref kkeptName, .ref kisKept, .ref konces, .int (nI ksnapMany), .int khasCells, .ref kpoured, .ref kfar, .ref ksides, .int (nI ksideMany), .int kwayDays, .int khasWay, .ref klines, .ref kmet, .int (nI kmetMany), .ref ksunk, .ref ktrying, .int (nI ksunkMany), .int ksending, .int kfleets, .ref ktext, .int (nI ktexts), .int kseed, .ref kline, .ref kwritten, .int (nI klineMany), .int khasWritten, .ref knode, .int (nI knodes), .int (nI konesMany), .int (nI kwithin), .int (nI ktop)])), (ktape, .inl (ky 0, 940, .inl ktapeF))] sz)) (va_A [(o, .inr (12, [.int kthrown, .ref ktape, .int (nI ktaped), .int (nI ksize), .int (nI klimit), .int (nI kto), .int (nI kfrom), .int kkind, .int knumber, .int ksign, .int kfault, .int kplace, .long kword, .int ktold, .ref know, .ref kread, .ref kkept, .ref ksnaps, .ref kaside, .ref kname, .ref kreadName, .ref kkeptName, .ref kisKept, .ref konces, .int (nI ksnapMany), .int khasCells, .ref kpoured, .ref kfar, .ref ksides, .int (nI ksideMany), .int kwayDays, .int khasWay, .ref klines, .ref kmet, .int (nI kmetMany), .ref ksunk, .ref ktrying, .int (nI ksunkMany), .int ksending, .int kfleets, .ref ktext, .int (nI ktexts), .int kseed, .ref kline, .ref kwritten, .int (nI klineMany), .int khasWritten, .ref knode, .int (nI knodes), .int (nI konesMany), .int (nI kwithin), .int (nI ktop)])), (ktape, .inl (ky 0, 940, .inl ktapeF))] sz)) 0 0 (va_A [(o, .inr (12, [.int kthrown, .ref ktape, .int (nI ktaped), .int (nI ksize), .int (nI klimit), .int (nI kto), .int (nI kfrom), .int kkind, .int knumber, .int ksign, .int kfault, .int kplace, .long kword, .int ktold, .ref know, .ref kread, .ref kkept, .ref ksnaps, .ref kaside, .ref kname, .ref kreadName, .ref kkeptName, .ref kisKept, .ref konces, .int (nI ksnapMany), .int khasCells, .ref kpoured, .ref kfar, .ref ksides, .int (nI ksideMany), .int kwayDays, .int khasWay, .ref klines, .ref kmet, .int (nI kmetMany), .ref ksunk, .ref ktrying, .int (nI ksunkMany), .int ksending, .int kfleets, .ref ktext, .int (nI ktexts), .int kseed, .ref kline, .ref kwritten, .int (nI klineMany), .int khasWritten, .ref knode, .int (nI knodes), .int (nI konesMany), .int (nI kwithin), .int (nI ktop)])), (ktape, .inl (ky 0, 940, .inl ktapeF))] sz) := by
  refine Met.ofW (cc := cX12_readOneOf) (maxL := 4) (ret := (some .boolean)) (by decide) rfl ?_
  intro p e s m args below meth c s₁ B hml hv
  obtain ⟨rfl, hsz, hP, hK, hD0⟩ := hv
  have hx := B.exec
  have hb := B.bytes
  have hr := B.returns
  have hts := atoms_spec (ws := wsX12_readOneOf) B.pre
  have hown : s.vm.findClass RX12 = some m.cls := findClass_of_methodNamed B.named
  have hlocks := B.notSynchronized
  have hin12 : ∀ w ∈ u_ws RX12 TX12 52, w ∈ wsX12_readOneOf := by decide +kernel
  subst hsz
  have hD := hD0.self (sz := s.heap.size)
  generalize hAe : va_A [(o, .inr (12, [.int kthrown, .ref ktape, .int (nI ktaped), .int (nI ksize), .int (nI klimit), .int (nI kto), .int (nI kfrom), .int kkind, .int knumber, .int ksign, .int kfault, .int kplace, .long kword, .int ktold, .ref know, .ref kread, .ref kkept, .ref ksnaps, .ref kaside, .ref kname, .ref kreadName, .ref kkeptName, .ref kisKept, .ref konces, .int (nI ksnapMany), .int khasCells, .ref kpoured, .ref kfar, .ref ksides, .int (nI ksideMany), .int kwayDays, .int khasWay, .ref klines, .ref kmet, .int (nI kmetMany), .ref ksunk, .ref ktrying, .int (nI ksunkMany), .int ksending, .int kfleets, .ref ktext, .int (nI ktexts), .int kseed, .ref kline, .ref kwritten, .int (nI klineMany), .int khasWritten, .ref knode, .int (nI knodes), .int (nI konesMany), .int (nI kwithin), .int (nI ktop)])), (ktape, .inl (ky 0, 940, .inl ktapeF))] s.heap.size = A at hD ⊢
  have hA : ∀ q : Nat, s.heap.size ≤ q → A q := fun q h => by rw [← hAe]; exact Or.inr h
  have hS : va_S A s.heap s.heap [] := va_S.rf
  have hl := lv_entry ([.ref o, .int (nI fq), .int (nI lq)]) (n := 4) (Nat.le_of_ble_eq_true rfl)
  rw [lg_entry_eq]
  generalize (lg_sl ([.ref o, .int (nI fq), .int (nI lq)]) ++ List.replicate (4 - (lg_sl ([.ref o, .int (nI fq), .int (nI lq)])).length) Slot.unset).toArray = ls at hl ⊢
  have hl : lv_has ls 4 [(0, .ref o), (1, .int (nI fq)), (2, .int (nI lq))] := hl
  refine q_name (fun Q hQ => ?_)
  generalize ([.ref o, .int (nI fq), .int (nI lq)] : List Value).toArray = args at hts hQ ⊢
  refine lv_iload_n hx hb dX12_readOneOf_0 rfl (lv_at hl 1 rfl) ?_
  refine lv_istore_n (lv' := [(3, .int (nI fq)), (0, .ref o), (1, .int (nI fq)), (2, .int (nI lq))]) hx hb dX12_readOneOf_1 rfl hl (by decide) rfl (fun ls hl => ?_)
  have hL7 : ∀ (n8 : Nat) (k4 : Nat), (k4 ≤ 32) → (fq ≤ k4) → 32 - k4 < n8 → ∀ (H : Heap) (locs : List Loc) (ls : Array Slot), va_P (dC, dI) vwCl [(o, .inr (12, [.int kthrown, .ref ktape, .int (nI ktaped), .int (nI ksize), .int (nI klimit), .int (nI kto), .int (nI kfrom), .int kkind, .int knumber, .int ksign, .int kfault, .int kplace, .long kword, .int ktold, .ref know, .ref kread, .ref kkept, .ref ksnaps, .ref kaside, .ref kname, .ref kreadName, .ref kkeptName, .ref kisKept, .ref konces, .int (nI ksnapMany), .int khasCells, .ref kpoured, .ref kfar, .ref ksides, .int (nI ksideMany), .int kwayDays, .int khasWay, .ref klines, .ref kmet, .int (nI kmetMany), .ref ksunk, .ref ktrying, .int (nI ksunkMany), .int ksending, .int kfleets, .ref ktext, .int (nI ktexts), .int kseed, .ref kline, .ref kwritten, .int (nI klineMany), .int khasWritten, .ref knode, .int (nI knodes), .int (nI konesMany), .int (nI kwithin), .int (nI ktop)])), (ktape, .inl (ky 0, 940, .inl ktapeF))] H → va_D A [(o, .inr (12, [.int kthrown, .ref ktape, .int (nI ktaped), .int (nI ksize), .int (nI klimit), .int (nI kto), .int (nI kfrom), .int kkind, .int knumber, .int ksign, .int kfault, .int kplace, .long kword, .int ktold, .ref know, .ref kread, .ref kkept, .ref ksnaps, .ref kaside, .ref kname, .ref kreadName, .ref kkeptName, .ref kisKept, .ref konces, .int (nI ksnapMany), .int khasCells, .ref kpoured, .ref kfar, .ref ksides, .int (nI ksideMany), .int kwayDays, .int khasWay, .ref klines, .ref kmet, .int (nI kmetMany), .ref ksunk, .ref ktrying, .int (nI ksunkMany), .int ksending, .int kfleets, .ref ktext, .int (nI ktexts), .int kseed, .ref kline, .ref kwritten, .int (nI klineMany), .int khasWritten, .ref knode, .int (nI knodes), .int (nI konesMany), .int (nI kwithin), .int (nI ktop)])), (ktape, .inl (ky 0, 940, .inl ktapeF))] → va_S A s.heap H locs → lv_has ls 4 [(3, .int (nI k4)), (0, .ref o), (1, .int (nI fq)), (2, .int (nI lq))] → W p l e (headSpec wsX12_readOneOf ({ frames := 3, cells := 0, slots := 0, locals := 68 })).room s m args below meth c H locs 0 0 Q (F0 m 2 ls []) := by
    intro n8
    induction n8 with
    | zero => intro k4 _ _ h9; exact absurd h9 (Nat.not_lt_zero _)
    | succ n8 ih9 =>
      intro k4 j5 j6 hm10 H locs ls hP hD hS hl
      refine lv_iload_n hx hb dX12_readOneOf_2 rfl (lv_at hl 0 rfl) ?_
      refine lv_iload_n hx hb dX12_readOneOf_3 rfl (lv_at hl 3 rfl) ?_
      refine n_icmp_gt (x := k4) (y := lq) (tgt := 21) hx hb (by omega) (by omega) dX12_readOneOf_4 (by decide) (fun c11 => ?_) (fun c11 => ?_)
      · refine lv_iload_n hx hb dX12_readOneOf_21 rfl (lv_at hl 0 rfl) ?_
        refine lv_iload_n hx hb dX12_readOneOf_22 rfl (lv_at hl 3 rfl) ?_
        refine n_icmp_le (x := k4) (y := lq) (tgt := 32) hx hb (by omega) (by omega) dX12_readOneOf_23 (by decide) (fun c12 => ?_) (fun c12 => ?_)
        · refine lv_aload_n hx hb dX12_readOneOf_32 rfl (lv_at hl 1 rfl) ?_
          refine lv_iload_n hx hb dX12_readOneOf_33 rfl (lv_at hl 0 rfl) ?_
          refine lv_iload_n hx hb dX12_readOneOf_34 rfl (lv_at hl 2 rfl) ?_
          refine lv_isub hx hb dX12_readOneOf_35 ?_
          refine r_ti (nI (k4 - fq)) (pk_sub (lf_x_readOneOf_1 fq lq k4 n8 hf hlq j5 j6 hm10 c11 c12)) ?_
          refine va_put (D := (dC, dI)) (ci := 12) (v := .int (nI (k4 - fq))) (ty := .int) (C := RX12) (T := TX12) (N := 52) hx hb hts hin12 tyX12 tyX12_ok nmX12 hown hK hP hD hS 0 rfl rfl 13 (by decide) (hts (.fieldLink RX12 79 "PorridgeSeaModel" "told" "I") (List.mem_of_getElem? (i := 1) rfl)) (fun _ h9 => h9) rfl (by decide +kernel) rfl rfl (Nat.le_of_ble_eq_true rfl) dX12_readOneOf_36 (fun H locs hP hD hS => ?_)
          have hP : va_P (dC, dI) vwCl [(o, .inr (12, [.int kthrown, .ref ktape, .int (nI ktaped), .int (nI ksize), .int (nI klimit), .int (nI kto), .int (nI kfrom), .int kkind, .int knumber, .int ksign, .int kfault, .int kplace, .long kword, .int (nI (k4 - fq)), .ref know, .ref kread, .ref kkept, .ref ksnaps, .ref kaside, .ref kname, .ref kreadName, .ref kkeptName, .ref kisKept, .ref konces, .int (nI ksnapMany), .int khasCells, .ref kpoured, .ref kfar, .ref ksides, .int (nI ksideMany), .int kwayDays, .int khasWay, .ref klines, .ref kmet, .int (nI kmetMany), .ref ksunk, .ref ktrying, .int (nI ksunkMany), .int ksending, .int kfleets, .ref ktext, .int (nI ktexts), .int kseed, .ref kline, .ref kwritten, .int (nI klineMany), .int khasWritten, .ref knode, .int (nI knodes), .int (nI konesMany), .int (nI kwithin), .int (nI ktop)])), (ktape, .inl (ky 0, 940, .inl ktapeF))] H := hP
          have hD : va_D A [(o, .inr (12, [.int kthrown, .ref ktape, .int (nI ktaped), .int (nI ksize), .int (nI klimit), .int (nI kto), .int (nI kfrom), .int kkind, .int knumber, .int ksign, .int kfault, .int kplace, .long kword, .int (nI (k4 - fq)), .ref know, .ref kread, .ref kkept, .ref ksnaps, .ref kaside, .ref kname, .ref kreadName, .ref kkeptName, .ref kisKept, .ref konces, .int (nI ksnapMany), .int khasCells, .ref kpoured, .ref kfar, .ref ksides, .int (nI ksideMany), .int kwayDays, .int khasWay, .ref klines, .ref kmet, .int (nI kmetMany), .ref ksunk, .ref ktrying, .int (nI ksunkMany), .int ksending, .int kfleets, .ref ktext, .int (nI ktexts), .int kseed, .ref kline, .ref kwritten, .int (nI klineMany), .int khasWritten, .ref knode, .int (nI knodes), .int (nI konesMany), .int (nI kwithin), .int (nI ktop)])), (ktape, .inl (ky 0, 940, .inl ktapeF))] := hD
          refine lv_aload_n hx hb dX12_readOneOf_39 rfl (lv_at hl 1 rfl) ?_
          refine r_call_v (wr := []) (va_runV (As := []) (rest := []) ⟨hx, hb, hml, hown, hts⟩ (c_x_goP l dC dI ky H.size o kthrown ktape ktaped ksize klimit kto kfrom kkind knumber ksign kfault kplace kword (nI (k4 - fq)) know kread kkept ksnaps kaside kname kreadName kkeptName kisKept konces ksnapMany khasCells kpoured kfar ksides ksideMany kwayDays khasWay klines kmet kmetMany ksunk ktrying ksunkMany ksending kfleets ktext ktexts kseed kline kwritten klineMany khasWritten knode knodes konesMany kwithin ktop ktapeF iv_ko_0 iv_ko_1 iv_ko_2 iv_ko_3 iv_ko_4 iv_ko_5 iv_ko_6 iv_ko_7 iv_ko_8 iv_ko_9 iv_ko_10 iv_ko_11 iv_ko_12 iv_ko_13 iv_ko_14) (cwV 0 hts gX12_readOneOf_X12_go rfl rfl rfl (by decide +kernel) ⟨(Nat.le_of_ble_eq_true rfl), (Nat.le_of_ble_eq_true rfl)⟩) (pre_UV hK hP hD [0, 1] (by decide) rfl (ci := 12) (q0 := 0) rfl rfl) rfl rfl hl.1 rfl (lv_room (Nat.le_of_ble_eq_true rfl)) dX12_readOneOf_40 ⟨(Nat.le_of_ble_eq_true rfl), (Nat.le_of_ble_eq_true rfl)⟩) hP hD hS hA [0, 1] [] rfl rfl (by decide) (by decide) (fun  u13 H locs p14 hP hD hS => ?_)
          obtain ⟨ktoG_15, kfromG_16, kkindG_17, knumberG_18, ksignG_19, kwordG_20⟩ := u13
          try dsimp only at p14
          obtain ⟨p21, p22, p23, p24, p25⟩ := p14
          refine W.widen (k := 0) (n := 0) (Nat.le_of_ble_eq_true rfl) (Nat.le_of_ble_eq_true rfl) ?_
          have hP : va_P (dC, dI) vwCl [(o, .inr (12, [.int kthrown, .ref ktape, .int (nI ktaped), .int (nI ksize), .int (nI klimit), .int (nI ktoG_15), .int (nI kfromG_16), .int kkindG_17, .int knumberG_18, .int ksignG_19, .int kfault, .int kplace, .long kwordG_20, .int (nI (k4 - fq)), .ref know, .ref kread, .ref kkept, .ref ksnaps, .ref kaside, .ref kname, .ref kreadName, .ref kkeptName, .ref kisKept, .ref konces, .int (nI ksnapMany), .int khasCells, .ref kpoured, .ref kfar, .ref ksides, .int (nI ksideMany), .int kwayDays, .int khasWay, .ref klines, .ref kmet, .int (nI kmetMany), .ref ksunk, .ref ktrying, .int (nI ksunkMany), .int ksending, .int kfleets, .ref ktext, .int (nI ktexts), .int kseed, .ref kline, .ref kwritten, .int (nI klineMany), .int khasWritten, .ref knode, .int (nI knodes), .int (nI konesMany), .int (nI kwithin), .int (nI ktop)])), (ktape, .inl (ky 0, 940, .inl ktapeF))] H := hP
          have hD : va_D A [(o, .inr (12, [.int kthrown, .ref ktape, .int (nI ktaped), .int (nI ksize), .int (nI klimit), .int (nI ktoG_15), .int (nI kfromG_16), .int kkindG_17, .int knumberG_18, .int ksignG_19, .int kfault, .int kplace, .long kwordG_20, .int (nI (k4 - fq)), .ref know, .ref kread, .ref kkept, .ref ksnaps, .ref kaside, .ref kname, .ref kreadName, .ref kkeptName, .ref kisKept, .ref konces, .int (nI ksnapMany), .int khasCells, .ref kpoured, .ref kfar, .ref ksides, .int (nI ksideMany), .int kwayDays, .int khasWay, .ref klines, .ref kmet, .int (nI kmetMany), .ref ksunk, .ref ktrying, .int (nI ksunkMany), .int ksending, .int kfleets, .ref ktext, .int (nI ktexts), .int kseed, .ref kline, .ref kwritten, .int (nI klineMany), .int khasWritten, .ref knode, .int (nI knodes), .int (nI konesMany), .int (nI kwithin), .int (nI ktop)])), (ktape, .inl (ky 0, 940, .inl ktapeF))] := hD
          refine lv_iconst (v := nI 1) hx hb dX12_readOneOf_43 (by decide) ?_
          rw [hQ]
          exact W.zret (v := nI 1) hx hb hr (by decide) (fun t9 ht9 hW9 => ⟨⟨nI 1, (ktoG_15, kfromG_16, kkindG_17, knumberG_18, ksignG_19, kfault, kplace, kwordG_20, nI (k4 - fq)), rfl, ⟨(lf_x_readOneOf_2 fq lq k4 n8 hf hlq j5 j6 hm10 c11 c12), p21, p22⟩, by rw [ht9]; exact hP, va_K.moved hW9.alike hK, hD⟩, hS.F ht9⟩) hS.2.2 dX12_readOneOf_44
        · refine lv_aload_n hx hb dX12_readOneOf_26 rfl (lv_at hl 1 rfl) ?_
          refine lv_iconst (v := nI 1) hx hb dX12_readOneOf_27 (by decide) ?_
          refine r_call_i (wr := [(ktape, .inl (ky 0, 940, .inl ktapeF))]) (va_runV (As := [.int (nI 1)]) (rest := []) ⟨hx, hb, hml, hown, hts⟩ (c_x_bad l dC dI ky H.size o kthrown ktape ktaped ksize klimit kto kfrom kkind knumber ksign kfault kplace kword ktold know kread kkept ksnaps kaside kname kreadName kkeptName kisKept konces ksnapMany khasCells kpoured kfar ksides ksideMany kwayDays khasWay klines kmet kmetMany ksunk ktrying ksunkMany ksending kfleets ktext ktexts kseed kline kwritten klineMany khasWritten knode knodes konesMany kwithin ktop (nI 1) iv_ko_0 iv_ko_1 iv_ko_2 iv_ko_3 iv_ko_4 iv_ko_5 iv_ko_6 iv_ko_7 iv_ko_8 iv_ko_9 iv_ko_10 iv_ko_11 iv_ko_12 iv_ko_13 iv_ko_14) (cwV 1 hts gX12_readOneOf_X12_bad rfl rfl rfl (by decide +kernel) ⟨(Nat.le_of_ble_eq_true rfl), (Nat.le_of_ble_eq_true rfl)⟩) (pre_UV hK hP hD [0] (by decide) rfl (ci := 12) (q0 := 0) rfl rfl) rfl rfl hl.1 rfl (lv_room (Nat.le_of_ble_eq_true rfl)) dX12_readOneOf_28 ⟨(Nat.le_of_ble_eq_true rfl), (Nat.le_of_ble_eq_true rfl)⟩) hP hD hS hA [0] [1] rfl rfl (by decide) (by decide) (fun r28 u26 H locs p27 hP hD hS => ?_)
          obtain ⟨kfaultG_29, kplaceG_30⟩ := u26
          try dsimp only at p27
          have p31 := p27
          refine W.widen (k := 0) (n := 0) (Nat.le_of_ble_eq_true rfl) (Nat.le_of_ble_eq_true rfl) ?_
          have hP : va_P (dC, dI) vwCl [(ktape, .inl (ky 0, 940, .inl ktapeF)), (o, .inr (12, [.int kthrown, .ref ktape, .int (nI ktaped), .int (nI ksize), .int (nI klimit), .int (nI kto), .int (nI kfrom), .int kkind, .int knumber, .int ksign, .int kfaultG_29, .int kplaceG_30, .long kword, .int ktold, .ref know, .ref kread, .ref kkept, .ref ksnaps, .ref kaside, .ref kname, .ref kreadName, .ref kkeptName, .ref kisKept, .ref konces, .int (nI ksnapMany), .int khasCells, .ref kpoured, .ref kfar, .ref ksides, .int (nI ksideMany), .int kwayDays, .int khasWay, .ref klines, .ref kmet, .int (nI kmetMany), .ref ksunk, .ref ktrying, .int (nI ksunkMany), .int ksending, .int kfleets, .ref ktext, .int (nI ktexts), .int kseed, .ref kline, .ref kwritten, .int (nI klineMany), .int khasWritten, .ref knode, .int (nI knodes), .int (nI konesMany), .int (nI kwithin), .int (nI ktop)]))] H := hP
          have hD : va_D A [(ktape, .inl (ky 0, 940, .inl ktapeF)), (o, .inr (12, [.int kthrown, .ref ktape, .int (nI ktaped), .int (nI ksize), .int (nI klimit), .int (nI kto), .int (nI kfrom), .int kkind, .int knumber, .int ksign, .int kfaultG_29, .int kplaceG_30, .long kword, .int ktold, .ref know, .ref kread, .ref kkept, .ref ksnaps, .ref kaside, .ref kname, .ref kreadName, .ref kkeptName, .ref kisKept, .ref konces, .int (nI ksnapMany), .int khasCells, .ref kpoured, .ref kfar, .ref ksides, .int (nI ksideMany), .int kwayDays, .int khasWay, .ref klines, .ref kmet, .int (nI kmetMany), .ref ksunk, .ref ktrying, .int (nI ksunkMany), .int ksending, .int kfleets, .ref ktext, .int (nI ktexts), .int kseed, .ref kline, .ref kwritten, .int (nI klineMany), .int khasWritten, .ref knode, .int (nI knodes), .int (nI konesMany), .int (nI kwithin), .int (nI ktop)]))] := hD
          subst p31
          rw [hQ]
          have hP9 := hP.sub (ws' := [(o, .inr (12, [.int kthrown, .ref ktape, .int (nI ktaped), .int (nI ksize), .int (nI klimit), .int (nI kto), .int (nI kfrom), .int kkind, .int knumber, .int ksign, .int kfaultG_29, .int kplaceG_30, .long kword, .int ktold, .ref know, .ref kread, .ref kkept, .ref ksnaps, .ref kaside, .ref kname, .ref kreadName, .ref kkeptName, .ref kisKept, .ref konces, .int (nI ksnapMany), .int khasCells, .ref kpoured, .ref kfar, .ref ksides, .int (nI ksideMany), .int kwayDays, .int khasWay, .ref klines, .ref kmet, .int (nI kmetMany), .ref ksunk, .ref ktrying, .int (nI ksunkMany), .int ksending, .int kfleets, .ref ktext, .int (nI ktexts), .int kseed, .ref kline, .ref kwritten, .int (nI klineMany), .int khasWritten, .ref knode, .int (nI knodes), .int (nI konesMany), .int (nI kwithin), .int (nI ktop)])), (ktape, .inl (ky 0, 940, .inl ktapeF))]) [1, 0] rfl
          have hD9 := hD.sub (ws' := [(o, .inr (12, [.int kthrown, .ref ktape, .int (nI ktaped), .int (nI ksize), .int (nI klimit), .int (nI kto), .int (nI kfrom), .int kkind, .int knumber, .int ksign, .int kfaultG_29, .int kplaceG_30, .long kword, .int ktold, .ref know, .ref kread, .ref kkept, .ref ksnaps, .ref kaside, .ref kname, .ref kreadName, .ref kkeptName, .ref kisKept, .ref konces, .int (nI ksnapMany), .int khasCells, .ref kpoured, .ref kfar, .ref ksides, .int (nI ksideMany), .int kwayDays, .int khasWay, .ref klines, .ref kmet, .int (nI kmetMany), .ref ksunk, .ref ktrying, .int (nI ksunkMany), .int ksending, .int kfleets, .ref ktext, .int (nI ktexts), .int kseed, .ref kline, .ref kwritten, .int (nI klineMany), .int khasWritten, .ref knode, .int (nI knodes), .int (nI konesMany), .int (nI kwithin), .int (nI ktop)])), (ktape, .inl (ky 0, 940, .inl ktapeF))]) [1, 0] (by decide) rfl
          exact W.zret (v := nI 0) hx hb hr (by decide) (fun t9 ht9 hW9 => ⟨⟨nI 0, (kto, kfrom, kkind, knumber, ksign, kfaultG_29, kplaceG_30, kword, ktold), rfl, ⟨(lf_x_readOneOf_3 ktold fq lq k4 n8 hf hlq j5 j6 hm10 c11 c12), iv_ko_3, iv_ko_4⟩, by rw [ht9]; exact hP9, va_K.moved hW9.alike hK, hD9⟩, hS.F ht9⟩) hS.2.2 dX12_readOneOf_31
      · refine lv_aload_n hx hb dX12_readOneOf_7 rfl (lv_at hl 1 rfl) ?_
        refine lv_iload_n hx hb dX12_readOneOf_8 rfl (lv_at hl 0 rfl) ?_
        refine r_call_i (wr := [(ktape, .inl (ky 0, 940, .inl ktapeF))]) (va_runV (As := [.int (nI k4)]) (rest := []) ⟨hx, hb, hml, hown, hts⟩ (c_x_isWord l dC dI ky H.size o kthrown ktape ktaped ksize klimit kto kfrom kkind knumber ksign kfault kplace kword ktold know kread kkept ksnaps kaside kname kreadName kkeptName kisKept konces ksnapMany khasCells kpoured kfar ksides ksideMany kwayDays khasWay klines kmet kmetMany ksunk ktrying ksunkMany ksending kfleets ktext ktexts kseed kline kwritten klineMany khasWritten knode knodes konesMany kwithin ktop (nI k4) iv_ko_0 iv_ko_1 iv_ko_2 iv_ko_3 iv_ko_4 iv_ko_5 iv_ko_6 iv_ko_7 iv_ko_8 iv_ko_9 iv_ko_10 iv_ko_11 iv_ko_12 iv_ko_13 iv_ko_14) (cwV 1 hts gX12_readOneOf_X12_isWord rfl rfl rfl (by decide +kernel) ⟨(Nat.le_of_ble_eq_true rfl), (Nat.le_of_ble_eq_true rfl)⟩) (pre_UV hK hP hD [0] (by decide) rfl (ci := 12) (q0 := 0) rfl rfl) rfl rfl hl.1 rfl (lv_room (Nat.le_of_ble_eq_true rfl)) dX12_readOneOf_9 ⟨(Nat.le_of_ble_eq_true rfl), (Nat.le_of_ble_eq_true rfl)⟩) hP hD hS hA [0] [1] rfl rfl (by decide) (by decide) (fun r34 u32 H locs p33 hP hD hS => ?_)
        try dsimp only at p33
        have p35 := p33
        refine W.widen (k := 0) (n := 0) (Nat.le_of_ble_eq_true rfl) (Nat.le_of_ble_eq_true rfl) ?_
        have hP : va_P (dC, dI) vwCl [(ktape, .inl (ky 0, 940, .inl ktapeF)), (o, .inr (12, [.int kthrown, .ref ktape, .int (nI ktaped), .int (nI ksize), .int (nI klimit), .int (nI kto), .int (nI kfrom), .int kkind, .int knumber, .int ksign, .int kfault, .int kplace, .long kword, .int ktold, .ref know, .ref kread, .ref kkept, .ref ksnaps, .ref kaside, .ref kname, .ref kreadName, .ref kkeptName, .ref kisKept, .ref konces, .int (nI ksnapMany), .int khasCells, .ref kpoured, .ref kfar, .ref ksides, .int (nI ksideMany), .int kwayDays, .int khasWay, .ref klines, .ref kmet, .int (nI kmetMany), .ref ksunk, .ref ktrying, .int (nI ksunkMany), .int ksending, .int kfleets, .ref ktext, .int (nI ktexts), .int kseed, .ref kline, .ref kwritten, .int (nI klineMany), .int khasWritten, .ref knode, .int (nI knodes), .int (nI konesMany), .int (nI kwithin), .int (nI ktop)]))] H := hP
        have hD : va_D A [(ktape, .inl (ky 0, 940, .inl ktapeF)), (o, .inr (12, [.int kthrown, .ref ktape, .int (nI ktaped), .int (nI ksize), .int (nI klimit), .int (nI kto), .int (nI kfrom), .int kkind, .int knumber, .int ksign, .int kfault, .int kplace, .long kword, .int ktold, .ref know, .ref kread, .ref kkept, .ref ksnaps, .ref kaside, .ref kname, .ref kreadName, .ref kkeptName, .ref kisKept, .ref konces, .int (nI ksnapMany), .int khasCells, .ref kpoured, .ref kfar, .ref ksides, .int (nI ksideMany), .int kwayDays, .int khasWay, .ref klines, .ref kmet, .int (nI kmetMany), .ref ksunk, .ref ktrying, .int (nI ksunkMany), .int ksending, .int kfleets, .ref ktext, .int (nI ktexts), .int kseed, .ref kline, .ref kwritten, .int (nI klineMany), .int khasWritten, .ref knode, .int (nI knodes), .int (nI konesMany), .int (nI kwithin), .int (nI ktop)]))] := hD
        refine lv_if_ne (tgt := 21) hx hb dX12_readOneOf_12 (by decide) (fun c36 => ?_) (fun c36 => ?_)
        · refine lv_iload_n hx hb dX12_readOneOf_21 rfl (lv_at hl 0 rfl) ?_
          refine lv_iload_n hx hb dX12_readOneOf_22 rfl (lv_at hl 3 rfl) ?_
          refine n_icmp_le (x := k4) (y := lq) (tgt := 32) hx hb (by omega) (by omega) dX12_readOneOf_23 (by decide) (fun c37 => ?_) (fun c37 => ?_)
          · refine lv_aload_n hx hb dX12_readOneOf_32 rfl (lv_at hl 1 rfl) ?_
            refine lv_iload_n hx hb dX12_readOneOf_33 rfl (lv_at hl 0 rfl) ?_
            refine lv_iload_n hx hb dX12_readOneOf_34 rfl (lv_at hl 2 rfl) ?_
            refine lv_isub hx hb dX12_readOneOf_35 ?_
            refine r_ti (nI (k4 - fq)) (pk_sub (lf_x_readOneOf_4 fq lq k4 n8 hf hlq j5 j6 hm10 c11 c37)) ?_
            refine va_put (D := (dC, dI)) (ci := 12) (v := .int (nI (k4 - fq))) (ty := .int) (C := RX12) (T := TX12) (N := 52) hx hb hts hin12 tyX12 tyX12_ok nmX12 hown hK hP hD hS 1 rfl rfl 13 (by decide) (hts (.fieldLink RX12 79 "PorridgeSeaModel" "told" "I") (List.mem_of_getElem? (i := 1) rfl)) (fun _ h9 => h9) rfl (by decide +kernel) rfl rfl (Nat.le_of_ble_eq_true rfl) dX12_readOneOf_36 (fun H locs hP hD hS => ?_)
            have hP : va_P (dC, dI) vwCl [(ktape, .inl (ky 0, 940, .inl ktapeF)), (o, .inr (12, [.int kthrown, .ref ktape, .int (nI ktaped), .int (nI ksize), .int (nI klimit), .int (nI kto), .int (nI kfrom), .int kkind, .int knumber, .int ksign, .int kfault, .int kplace, .long kword, .int (nI (k4 - fq)), .ref know, .ref kread, .ref kkept, .ref ksnaps, .ref kaside, .ref kname, .ref kreadName, .ref kkeptName, .ref kisKept, .ref konces, .int (nI ksnapMany), .int khasCells, .ref kpoured, .ref kfar, .ref ksides, .int (nI ksideMany), .int kwayDays, .int khasWay, .ref klines, .ref kmet, .int (nI kmetMany), .ref ksunk, .ref ktrying, .int (nI ksunkMany), .int ksending, .int kfleets, .ref ktext, .int (nI ktexts), .int kseed, .ref kline, .ref kwritten, .int (nI klineMany), .int khasWritten, .ref knode, .int (nI knodes), .int (nI konesMany), .int (nI kwithin), .int (nI ktop)]))] H := hP
            have hD : va_D A [(ktape, .inl (ky 0, 940, .inl ktapeF)), (o, .inr (12, [.int kthrown, .ref ktape, .int (nI ktaped), .int (nI ksize), .int (nI klimit), .int (nI kto), .int (nI kfrom), .int kkind, .int knumber, .int ksign, .int kfault, .int kplace, .long kword, .int (nI (k4 - fq)), .ref know, .ref kread, .ref kkept, .ref ksnaps, .ref kaside, .ref kname, .ref kreadName, .ref kkeptName, .ref kisKept, .ref konces, .int (nI ksnapMany), .int khasCells, .ref kpoured, .ref kfar, .ref ksides, .int (nI ksideMany), .int kwayDays, .int khasWay, .ref klines, .ref kmet, .int (nI kmetMany), .ref ksunk, .ref ktrying, .int (nI ksunkMany), .int ksending, .int kfleets, .ref ktext, .int (nI ktexts), .int kseed, .ref kline, .ref kwritten, .int (nI klineMany), .int khasWritten, .ref knode, .int (nI knodes), .int (nI konesMany), .int (nI kwithin), .int (nI ktop)]))] := hD
            refine lv_aload_n hx hb dX12_readOneOf_39 rfl (lv_at hl 1 rfl) ?_
            refine r_call_v (wr := []) (va_runV (As := []) (rest := []) ⟨hx, hb, hml, hown, hts⟩ (c_x_goP l dC dI ky H.size o kthrown ktape ktaped ksize klimit kto kfrom kkind knumber ksign kfault kplace kword (nI (k4 - fq)) know kread kkept ksnaps kaside kname kreadName kkeptName kisKept konces ksnapMany khasCells kpoured kfar ksides ksideMany kwayDays khasWay klines kmet kmetMany ksunk ktrying ksunkMany ksending kfleets ktext ktexts kseed kline kwritten klineMany khasWritten knode knodes konesMany kwithin ktop ktapeF iv_ko_0 iv_ko_1 iv_ko_2 iv_ko_3 iv_ko_4 iv_ko_5 iv_ko_6 iv_ko_7 iv_ko_8 iv_ko_9 iv_ko_10 iv_ko_11 iv_ko_12 iv_ko_13 iv_ko_14) (cwV 0 hts gX12_readOneOf_X12_go rfl rfl rfl (by decide +kernel) ⟨(Nat.le_of_ble_eq_true rfl), (Nat.le_of_ble_eq_true rfl)⟩) (pre_UV hK hP hD [1, 0] (by decide) rfl (ci := 12) (q0 := 1) rfl rfl) rfl rfl hl.1 rfl (lv_room (Nat.le_of_ble_eq_true rfl)) dX12_readOneOf_40 ⟨(Nat.le_of_ble_eq_true rfl), (Nat.le_of_ble_eq_true rfl)⟩) hP hD hS hA [1, 0] [] rfl rfl (by decide) (by decide) (fun  u38 H locs p39 hP hD hS => ?_)
            obtain ⟨ktoG_40, kfromG_41, kkindG_42, knumberG_43, ksignG_44, kwordG_45⟩ := u38
            try dsimp only at p39
            obtain ⟨p46, p47, p48, p49, p50⟩ := p39
            refine W.widen (k := 0) (n := 0) (Nat.le_of_ble_eq_true rfl) (Nat.le_of_ble_eq_true rfl) ?_
            have hP : va_P (dC, dI) vwCl [(o, .inr (12, [.int kthrown, .ref ktape, .int (nI ktaped), .int (nI ksize), .int (nI klimit), .int (nI ktoG_40), .int (nI kfromG_41), .int kkindG_42, .int knumberG_43, .int ksignG_44, .int kfault, .int kplace, .long kwordG_45, .int (nI (k4 - fq)), .ref know, .ref kread, .ref kkept, .ref ksnaps, .ref kaside, .ref kname, .ref kreadName, .ref kkeptName, .ref kisKept, .ref konces, .int (nI ksnapMany), .int khasCells, .ref kpoured, .ref kfar, .ref ksides, .int (nI ksideMany), .int kwayDays, .int khasWay, .ref klines, .ref kmet, .int (nI kmetMany), .ref ksunk, .ref ktrying, .int (nI ksunkMany), .int ksending, .int kfleets, .ref ktext, .int (nI ktexts), .int kseed, .ref kline, .ref kwritten, .int (nI klineMany), .int khasWritten, .ref knode, .int (nI knodes), .int (nI konesMany), .int (nI kwithin), .int (nI ktop)])), (ktape, .inl (ky 0, 940, .inl ktapeF))] H := hP
            have hD : va_D A [(o, .inr (12, [.int kthrown, .ref ktape, .int (nI ktaped), .int (nI ksize), .int (nI klimit), .int (nI ktoG_40), .int (nI kfromG_41), .int kkindG_42, .int knumberG_43, .int ksignG_44, .int kfault, .int kplace, .long kwordG_45, .int (nI (k4 - fq)), .ref know, .ref kread, .ref kkept, .ref ksnaps, .ref kaside, .ref kname, .ref kreadName, .ref kkeptName, .ref kisKept, .ref konces, .int (nI ksnapMany), .int khasCells, .ref kpoured, .ref kfar, .ref ksides, .int (nI ksideMany), .int kwayDays, .int khasWay, .ref klines, .ref kmet, .int (nI kmetMany), .ref ksunk, .ref ktrying, .int (nI ksunkMany), .int ksending, .int kfleets, .ref ktext, .int (nI ktexts), .int kseed, .ref kline, .ref kwritten, .int (nI klineMany), .int khasWritten, .ref knode, .int (nI knodes), .int (nI konesMany), .int (nI kwithin), .int (nI ktop)])), (ktape, .inl (ky 0, 940, .inl ktapeF))] := hD
            refine lv_iconst (v := nI 1) hx hb dX12_readOneOf_43 (by decide) ?_
            rw [hQ]
            exact W.zret (v := nI 1) hx hb hr (by decide) (fun t9 ht9 hW9 => ⟨⟨nI 1, (ktoG_40, kfromG_41, kkindG_42, knumberG_43, ksignG_44, kfault, kplace, kwordG_45, nI (k4 - fq)), rfl, ⟨(lf_x_readOneOf_5 fq lq k4 n8 hf hlq j5 j6 hm10 c11 c37), p46, p47⟩, by rw [ht9]; exact hP, va_K.moved hW9.alike hK, hD⟩, hS.F ht9⟩) hS.2.2 dX12_readOneOf_44
          · refine lv_aload_n hx hb dX12_readOneOf_26 rfl (lv_at hl 1 rfl) ?_
            refine lv_iconst (v := nI 1) hx hb dX12_readOneOf_27 (by decide) ?_
            refine r_call_i (wr := [(ktape, .inl (ky 0, 940, .inl ktapeF))]) (va_runV (As := [.int (nI 1)]) (rest := []) ⟨hx, hb, hml, hown, hts⟩ (c_x_bad l dC dI ky H.size o kthrown ktape ktaped ksize klimit kto kfrom kkind knumber ksign kfault kplace kword ktold know kread kkept ksnaps kaside kname kreadName kkeptName kisKept konces ksnapMany khasCells kpoured kfar ksides ksideMany kwayDays khasWay klines kmet kmetMany ksunk ktrying ksunkMany ksending kfleets ktext ktexts kseed kline kwritten klineMany khasWritten knode knodes konesMany kwithin ktop (nI 1) iv_ko_0 iv_ko_1 iv_ko_2 iv_ko_3 iv_ko_4 iv_ko_5 iv_ko_6 iv_ko_7 iv_ko_8 iv_ko_9 iv_ko_10 iv_ko_11 iv_ko_12 iv_ko_13 iv_ko_14) (cwV 1 hts gX12_readOneOf_X12_bad rfl rfl rfl (by decide +kernel) ⟨(Nat.le_of_ble_eq_true rfl), (Nat.le_of_ble_eq_true rfl)⟩) (pre_UV hK hP hD [1] (by decide) rfl (ci := 12) (q0 := 1) rfl rfl) rfl rfl hl.1 rfl (lv_room (Nat.le_of_ble_eq_true rfl)) dX12_readOneOf_28 ⟨(Nat.le_of_ble_eq_true rfl), (Nat.le_of_ble_eq_true rfl)⟩) hP hD hS hA [1] [0] rfl rfl (by decide) (by decide) (fun r53 u51 H locs p52 hP hD hS => ?_)
            obtain ⟨kfaultG_54, kplaceG_55⟩ := u51
            try dsimp only at p52
            have p56 := p52
            refine W.widen (k := 0) (n := 0) (Nat.le_of_ble_eq_true rfl) (Nat.le_of_ble_eq_true rfl) ?_
            have hP : va_P (dC, dI) vwCl [(ktape, .inl (ky 0, 940, .inl ktapeF)), (o, .inr (12, [.int kthrown, .ref ktape, .int (nI ktaped), .int (nI ksize), .int (nI klimit), .int (nI kto), .int (nI kfrom), .int kkind, .int knumber, .int ksign, .int kfaultG_54, .int kplaceG_55, .long kword, .int ktold, .ref know, .ref kread, .ref kkept, .ref ksnaps, .ref kaside, .ref kname, .ref kreadName, .ref kkeptName, .ref kisKept, .ref konces, .int (nI ksnapMany), .int khasCells, .ref kpoured, .ref kfar, .ref ksides, .int (nI ksideMany), .int kwayDays, .int khasWay, .ref klines, .ref kmet, .int (nI kmetMany), .ref ksunk, .ref ktrying, .int (nI ksunkMany), .int ksending, .int kfleets, .ref ktext, .int (nI ktexts), .int kseed, .ref kline, .ref kwritten, .int (nI klineMany), .int khasWritten, .ref knode, .int (nI knodes), .int (nI konesMany), .int (nI kwithin), .int (nI ktop)]))] H := hP
            have hD : va_D A [(ktape, .inl (ky 0, 940, .inl ktapeF)), (o, .inr (12, [.int kthrown, .ref ktape, .int (nI ktaped), .int (nI ksize), .int (nI klimit), .int (nI kto), .int (nI kfrom), .int kkind, .int knumber, .int ksign, .int kfaultG_54, .int kplaceG_55, .long kword, .int ktold, .ref know, .ref kread, .ref kkept, .ref ksnaps, .ref kaside, .ref kname, .ref kreadName, .ref kkeptName, .ref kisKept, .ref konces, .int (nI ksnapMany), .int khasCells, .ref kpoured, .ref kfar, .ref ksides, .int (nI ksideMany), .int kwayDays, .int khasWay, .ref klines, .ref kmet, .int (nI kmetMany), .ref ksunk, .ref ktrying, .int (nI ksunkMany), .int ksending, .int kfleets, .ref ktext, .int (nI ktexts), .int kseed, .ref kline, .ref kwritten, .int (nI klineMany), .int khasWritten, .ref knode, .int (nI knodes), .int (nI konesMany), .int (nI kwithin), .int (nI ktop)]))] := hD
            subst p56
            rw [hQ]
            have hP9 := hP.sub (ws' := [(o, .inr (12, [.int kthrown, .ref ktape, .int (nI ktaped), .int (nI ksize), .int (nI klimit), .int (nI kto), .int (nI kfrom), .int kkind, .int knumber, .int ksign, .int kfaultG_54, .int kplaceG_55, .long kword, .int ktold, .ref know, .ref kread, .ref kkept, .ref ksnaps, .ref kaside, .ref kname, .ref kreadName, .ref kkeptName, .ref kisKept, .ref konces, .int (nI ksnapMany), .int khasCells, .ref kpoured, .ref kfar, .ref ksides, .int (nI ksideMany), .int kwayDays, .int khasWay, .ref klines, .ref kmet, .int (nI kmetMany), .ref ksunk, .ref ktrying, .int (nI ksunkMany), .int ksending, .int kfleets, .ref ktext, .int (nI ktexts), .int kseed, .ref kline, .ref kwritten, .int (nI klineMany), .int khasWritten, .ref knode, .int (nI knodes), .int (nI konesMany), .int (nI kwithin), .int (nI ktop)])), (ktape, .inl (ky 0, 940, .inl ktapeF))]) [1, 0] rfl
            have hD9 := hD.sub (ws' := [(o, .inr (12, [.int kthrown, .ref ktape, .int (nI ktaped), .int (nI ksize), .int (nI klimit), .int (nI kto), .int (nI kfrom), .int kkind, .int knumber, .int ksign, .int kfaultG_54, .int kplaceG_55, .long kword, .int ktold, .ref know, .ref kread, .ref kkept, .ref ksnaps, .ref kaside, .ref kname, .ref kreadName, .ref kkeptName, .ref kisKept, .ref konces, .int (nI ksnapMany), .int khasCells, .ref kpoured, .ref kfar, .ref ksides, .int (nI ksideMany), .int kwayDays, .int khasWay, .ref klines, .ref kmet, .int (nI kmetMany), .ref ksunk, .ref ktrying, .int (nI ksunkMany), .int ksending, .int kfleets, .ref ktext, .int (nI ktexts), .int kseed, .ref kline, .ref kwritten, .int (nI klineMany), .int khasWritten, .ref knode, .int (nI knodes), .int (nI konesMany), .int (nI kwithin), .int (nI ktop)])), (ktape, .inl (ky 0, 940, .inl ktapeF))]) [1, 0] (by decide) rfl
            exact W.zret (v := nI 0) hx hb hr (by decide) (fun t9 ht9 hW9 => ⟨⟨nI 0, (kto, kfrom, kkind, knumber, ksign, kfaultG_54, kplaceG_55, kword, ktold), rfl, ⟨(lf_x_readOneOf_6 ktold fq lq k4 n8 hf hlq j5 j6 hm10 c11 c37), iv_ko_3, iv_ko_4⟩, by rw [ht9]; exact hP9, va_K.moved hW9.alike hK, hD9⟩, hS.F ht9⟩) hS.2.2 dX12_readOneOf_31
        · refine lv_iinc (v := nI (k4 + 1)) (lv' := [(3, .int (nI (k4 + 1))), (0, .ref o), (1, .int (nI fq)), (2, .int (nI lq))]) hx hb dX12_readOneOf_15 hl (k := 0) rfl (show nI k4 + nI 1 = nI (k4 + 1) from nI_add _ _) (by decide) rfl (fun ls hl => ?_)
          refine lv_goto (tgt := 2) hx hb dX12_readOneOf_18 (by decide) ?_
          exact ih9 (k4 + 1) (lf_x_readOneOf_7 fq lq k4 n8 hf hlq j5 j6 hm10 c11) (lf_x_readOneOf_8 fq lq k4 n8 hf hlq j5 j6 hm10 c11) (lf_x_readOneOf_9 fq lq k4 n8 hf hlq j5 j6 hm10 c11) _ _ _ (hP.sub [1, 0] rfl) (hD.sub [1, 0] (by decide) rfl) hS (lv_sub hl [0, 1, 2, 3] rfl)
  exact hL7 ((32 - fq) + 1) fq (lf_x_readOneOf_10 fq lq hf hlq) (lf_x_readOneOf_11 fq lq hf hlq) (Nat.lt_succ_self _) _ _ _ hP hD hS (lv_sub hl [0, 1, 2, 3] rfl)
set_option maxRecDepth 20000 in
theorem lf_x_readStir_1   : 8 ≤ 9 := by
  try simp only [ia_lt, ia_le, ia_eq, ia_m1, ia_0, ia_1, ne_eq, true_and, and_true, false_and, and_false, or_false, false_or, or_true, true_or, not_true_eq_false, not_false_eq_true] at *
  all_goals omega
set_option maxRecDepth 20000 in
theorem lf_x_readStir_2   : 9 ≤ 31 := by
  try simp only [ia_lt, ia_le, ia_eq, ia_m1, ia_0, ia_1, ne_eq, true_and, and_true, false_and, and_false, or_false, false_or, or_true, true_or, not_true_eq_false, not_false_eq_true] at *
  all_goals omega
set_option maxRecDepth 20000 in
theorem lf_x_readStir_3 (aq : Nat) (ha : aq ≤ 156) : (aq + 1) < 160 := by
  try simp only [ia_lt, ia_le, ia_eq, ia_m1, ia_0, ia_1, ne_eq, true_and, and_true, false_and, and_false, or_false, false_or, or_true, true_or, not_true_eq_false, not_false_eq_true] at *
  all_goals omega
set_option maxRecDepth 20000 in
theorem lf_x_readStir_4 (klineF : Nat → Int32) (aq : Nat) (ktoldG_12 : Int32) (klineG_22 : Nat → Int32) (ha : aq ≤ 156) (t16 : 0 ≤ ktoldG_12.toInt) (t17 : ktoldG_12.toInt + ((8 : Nat) : Int) ≤ ((9 : Nat) : Int)) (p24 : klineG_22 = upd klineF (aq + 1) ktoldG_12) : (aq + 2) < 160 := by
  have b_ktoldG_12 := ia_b ktoldG_12
  try simp only [ia_lt, ia_le, ia_eq, ia_m1, ia_0, ia_1, ne_eq, true_and, and_true, false_and, and_false, or_false, false_or, or_true, true_or, not_true_eq_false, not_false_eq_true] at *
  all_goals omega
set_option maxRecDepth 20000 in
theorem lf_x_readStir_5   : 10 ≤ 11 := by
  try simp only [ia_lt, ia_le, ia_eq, ia_m1, ia_0, ia_1, ne_eq, true_and, and_true, false_and, and_false, or_false, false_or, or_true, true_or, not_true_eq_false, not_false_eq_true] at *
  all_goals omega
set_option maxRecDepth 20000 in
theorem lf_x_readStir_6   : 11 ≤ 31 := by
  try simp only [ia_lt, ia_le, ia_eq, ia_m1, ia_0, ia_1, ne_eq, true_and, and_true, false_and, and_false, or_false, false_or, or_true, true_or, not_true_eq_false, not_false_eq_true] at *
  all_goals omega
set_option maxRecDepth 20000 in
theorem lf_x_readStir_7 (klineF : Nat → Int32) (aq : Nat) (ktoldG_12 : Int32) (klineG_22 : Nat → Int32) (ktoldG_37 : Int32) (klineG_50 : Nat → Int32) (ha : aq ≤ 156) (t16 : 0 ≤ ktoldG_12.toInt) (t17 : ktoldG_12.toInt + ((8 : Nat) : Int) ≤ ((9 : Nat) : Int)) (p24 : klineG_22 = upd klineF (aq + 1) ktoldG_12) (t41 : (nI 0).toInt ≤ ktoldG_37.toInt) (t42 : ktoldG_37.toInt ≤ (nI 5).toInt) (p52 : klineG_50 = upd klineG_22 (aq + 2) ktoldG_37) : (aq + 3) < 160 := by
  have b_ktoldG_12 := ia_b ktoldG_12
  have b_ktoldG_37 := ia_b ktoldG_37
  try have k_0 := ia_n 0 (by first | decide | omega)
  try have k_1 := ia_n 5 (by first | decide | omega)
  try simp only [ia_lt, ia_le, ia_eq, ia_m1, ia_0, ia_1, ne_eq, true_and, and_true, false_and, and_false, or_false, false_or, or_true, true_or, not_true_eq_false, not_false_eq_true] at *
  all_goals omega
set_option maxRecDepth 20000 in
theorem lf_x_readStir_8 (klineF : Nat → Int32) (aq : Nat) (ktoldG_12 : Int32) (klineG_22 : Nat → Int32) (ktoldG_37 : Int32) (klineG_50 : Nat → Int32) (ktoldG_65 : Int32) (klineG_75 : Nat → Int32) (ha : aq ≤ 156) (t16 : 0 ≤ ktoldG_12.toInt) (t17 : ktoldG_12.toInt + ((8 : Nat) : Int) ≤ ((9 : Nat) : Int)) (p24 : klineG_22 = upd klineF (aq + 1) ktoldG_12) (t41 : (nI 0).toInt ≤ ktoldG_37.toInt) (t42 : ktoldG_37.toInt ≤ (nI 5).toInt) (p52 : klineG_50 = upd klineG_22 (aq + 2) ktoldG_37) (t69 : 0 ≤ ktoldG_65.toInt) (t70 : ktoldG_65.toInt + ((10 : Nat) : Int) ≤ ((11 : Nat) : Int)) (p77 : klineG_75 = upd klineG_50 (aq + 3) ktoldG_65) : ((nI 1) = nI 1 ∧ ((∀ j9, j9 < aq + 1 → klineG_75 j9 = klineF j9) ∧ 0 ≤ (klineG_75 (aq + 1)).toInt ∧ (klineG_75 (aq + 1)).toInt ≤ 1 ∧ 0 ≤ (klineG_75 (aq + 2)).toInt ∧ (klineG_75 (aq + 2)).toInt ≤ 5 ∧ 0 ≤ (klineG_75 (aq + 3)).toInt ∧ (klineG_75 (aq + 3)).toInt ≤ 1)) ∨ ((nI 1) = nI 0 ∧ (True)) := by
  refine Or.inl ⟨rfl, fun j9 hj9 => ?_, ?_, ?_, ?_, ?_, ?_, ?_⟩
  · rw [p77, upd_ne (by omega), p52, upd_ne (by omega), p24, upd_ne (by omega)]
  · rw [p77, upd_ne (by omega), p52, upd_ne (by omega), p24, upd_eq]
    have b_ktoldG_12 := ia_b ktoldG_12
    have b_ktoldG_37 := ia_b ktoldG_37
    have b_ktoldG_65 := ia_b ktoldG_65
    try have k_0 := ia_n 0 (by first | decide | omega)
    try have k_1 := ia_n 5 (by first | decide | omega)
    try have k_2 := ia_n 1 (by first | decide | omega)
    try simp only [ia_lt, ia_le, ia_eq, ia_m1, ia_0, ia_1, ne_eq, true_and, and_true, false_and, and_false, or_false, false_or, or_true, true_or, not_true_eq_false, not_false_eq_true] at *
    all_goals omega
  · rw [p77, upd_ne (by omega), p52, upd_ne (by omega), p24, upd_eq]
    have b_ktoldG_12 := ia_b ktoldG_12
    have b_ktoldG_37 := ia_b ktoldG_37
    have b_ktoldG_65 := ia_b ktoldG_65
    try have k_0 := ia_n 0 (by first | decide | omega)
    try have k_1 := ia_n 5 (by first | decide | omega)
    try have k_2 := ia_n 1 (by first | decide | omega)
    try simp only [ia_lt, ia_le, ia_eq, ia_m1, ia_0, ia_1, ne_eq, true_and, and_true, false_and, and_false, or_false, false_or, or_true, true_or, not_true_eq_false, not_false_eq_true] at *
    all_goals omega
  · rw [p77, upd_ne (by omega), p52, upd_eq]
    have b_ktoldG_12 := ia_b ktoldG_12
    have b_ktoldG_37 := ia_b ktoldG_37
    have b_ktoldG_65 := ia_b ktoldG_65
    try have k_0 := ia_n 0 (by first | decide | omega)
    try have k_1 := ia_n 5 (by first | decide | omega)
    try have k_2 := ia_n 1 (by first | decide | omega)
    try simp only [ia_lt, ia_le, ia_eq, ia_m1, ia_0, ia_1, ne_eq, true_and, and_true, false_and, and_false, or_false, false_or, or_true, true_or, not_true_eq_false, not_false_eq_true] at *
    all_goals omega
  · rw [p77, upd_ne (by omega), p52, upd_eq]
    have b_ktoldG_12 := ia_b ktoldG_12
    have b_ktoldG_37 := ia_b ktoldG_37
    have b_ktoldG_65 := ia_b ktoldG_65
    try have k_0 := ia_n 0 (by first | decide | omega)
    try have k_1 := ia_n 5 (by first | decide | omega)
    try have k_2 := ia_n 1 (by first | decide | omega)
    try simp only [ia_lt, ia_le, ia_eq, ia_m1, ia_0, ia_1, ne_eq, true_and, and_true, false_and, and_false, or_false, false_or, or_true, true_or, not_true_eq_false, not_false_eq_true] at *
    all_goals omega
  · rw [p77, upd_eq]
    have b_ktoldG_12 := ia_b ktoldG_12
    have b_ktoldG_37 := ia_b ktoldG_37
    have b_ktoldG_65 := ia_b ktoldG_65
    try have k_0 := ia_n 0 (by first | decide | omega)
    try have k_1 := ia_n 5 (by first | decide | omega)
    try have k_2 := ia_n 1 (by first | decide | omega)
    try simp only [ia_lt, ia_le, ia_eq, ia_m1, ia_0, ia_1, ne_eq, true_and, and_true, false_and, and_false, or_false, false_or, or_true, true_or, not_true_eq_false, not_false_eq_true] at *
    all_goals omega
  · rw [p77, upd_eq]
    have b_ktoldG_12 := ia_b ktoldG_12
    have b_ktoldG_37 := ia_b ktoldG_37
    have b_ktoldG_65 := ia_b ktoldG_65
    try have k_0 := ia_n 0 (by first | decide | omega)
    try have k_1 := ia_n 5 (by first | decide | omega)
    try have k_2 := ia_n 1 (by first | decide | omega)
    try simp only [ia_lt, ia_le, ia_eq, ia_m1, ia_0, ia_1, ne_eq, true_and, and_true, false_and, and_false, or_false, false_or, or_true, true_or, not_true_eq_false, not_false_eq_true] at *
    all_goals omega
set_option maxRecDepth 20000 in
theorem lf_x_readStir_9 (klineF : Nat → Int32) (aq : Nat) (ktoldG_12 : Int32) (klineG_22 : Nat → Int32) (ktoldG_37 : Int32) (klineG_50 : Nat → Int32) (ha : aq ≤ 156) (t16 : 0 ≤ ktoldG_12.toInt) (t17 : ktoldG_12.toInt + ((8 : Nat) : Int) ≤ ((9 : Nat) : Int)) (p24 : klineG_22 = upd klineF (aq + 1) ktoldG_12) (t41 : (nI 0).toInt ≤ ktoldG_37.toInt) (t42 : ktoldG_37.toInt ≤ (nI 5).toInt) (p52 : klineG_50 = upd klineG_22 (aq + 2) ktoldG_37) (t71 : True) : ((nI 0) = nI 1 ∧ ((∀ j9, j9 < aq + 1 → klineG_50 j9 = klineF j9) ∧ 0 ≤ (klineG_50 (aq + 1)).toInt ∧ (klineG_50 (aq + 1)).toInt ≤ 1 ∧ 0 ≤ (klineG_50 (aq + 2)).toInt ∧ (klineG_50 (aq + 2)).toInt ≤ 5 ∧ 0 ≤ (klineG_50 (aq + 3)).toInt ∧ (klineG_50 (aq + 3)).toInt ≤ 1)) ∨ ((nI 0) = nI 0 ∧ (True)) := by
  exact Or.inr ⟨rfl, trivial⟩
set_option maxRecDepth 20000 in
theorem lf_x_readStir_10 (klineF : Nat → Int32) (aq : Nat) (ktoldG_12 : Int32) (klineG_22 : Nat → Int32) (ha : aq ≤ 156) (t16 : 0 ≤ ktoldG_12.toInt) (t17 : ktoldG_12.toInt + ((8 : Nat) : Int) ≤ ((9 : Nat) : Int)) (p24 : klineG_22 = upd klineF (aq + 1) ktoldG_12) (t46 : True) : ((nI 0) = nI 1 ∧ ((∀ j9, j9 < aq + 1 → klineG_22 j9 = klineF j9) ∧ 0 ≤ (klineG_22 (aq + 1)).toInt ∧ (klineG_22 (aq + 1)).toInt ≤ 1 ∧ 0 ≤ (klineG_22 (aq + 2)).toInt ∧ (klineG_22 (aq + 2)).toInt ≤ 5 ∧ 0 ≤ (klineG_22 (aq + 3)).toInt ∧ (klineG_22 (aq + 3)).toInt ≤ 1)) ∨ ((nI 0) = nI 0 ∧ (True)) := by
  exact Or.inr ⟨rfl, trivial⟩
set_option maxRecDepth 20000 in
theorem lf_x_readStir_11 (klineF : Nat → Int32) (aq : Nat) (ha : aq ≤ 156) (t18 : True) : ((nI 0) = nI 1 ∧ ((∀ j9, j9 < aq + 1 → klineF j9 = klineF j9) ∧ 0 ≤ (klineF (aq + 1)).toInt ∧ (klineF (aq + 1)).toInt ≤ 1 ∧ 0 ≤ (klineF (aq + 2)).toInt ∧ (klineF (aq + 2)).toInt ≤ 5 ∧ 0 ≤ (klineF (aq + 3)).toInt ∧ (klineF (aq + 3)).toInt ≤ 1)) ∨ ((nI 0) = nI 0 ∧ (True)) := by
  exact Or.inr ⟨rfl, trivial⟩
set_option maxHeartbeats 4000000 in
set_option maxRecDepth 100000 in
theorem c_x_readStir (l : Launch) (dC : Nat → ClassId) (dI : Nat → Nat → Nat) (ky : Nat → ClassId) (sz : Nat) (o : Nat) (kthrown : Int32) (ktape : Nat) (ktaped : Nat) (ksize : Nat) (klimit : Nat) (kto : Nat) (kfrom : Nat) (kkind : Int32) (knumber : Int32) (ksign : Int32) (kfault : Int32) (kplace : Int32) (kword : Int64) (ktold : Int32) (know : Nat) (kread : Nat) (kkept : Nat) (ksnaps : Nat) (kaside : Nat) (kname : Nat) (kreadName : Nat) (kkeptName : Nat) (kisKept : Nat) (konces : Nat) (ksnapMany : Nat) (khasCells : Int32) (kpoured : Nat) (kfar : Nat) (ksides : Nat) (ksideMany : Nat) (kwayDays : Int32) (khasWay : Int32) (klines : Nat) (kmet : Nat) (kmetMany : Nat) (ksunk : Nat) (ktrying : Nat) (ksunkMany : Nat) (ksending : Int32) (kfleets : Int32) (ktext : Nat) (ktexts : Nat) (kseed : Int32) (kline : Nat) (kwritten : Nat) (klineMany : Nat) (khasWritten : Int32) (knode : Nat) (knodes : Nat) (konesMany : Nat) (kwithin : Nat) (ktop : Nat) (ktapeF : Nat → Int32) (klineF : Nat → Int32) (aq : Nat) (iv_ko_0 : ktaped ≤ 940) (iv_ko_1 : ksize ≤ 940) (iv_ko_2 : klimit ≤ 900) (iv_ko_3 : kto ≤ ksize) (iv_ko_4 : kfrom ≤ 940) (iv_ko_5 : ksnapMany ≤ 8) (iv_ko_6 : ksideMany ≤ 36) (iv_ko_7 : kmetMany ≤ 3) (iv_ko_8 : ksunkMany ≤ 36) (iv_ko_9 : ktexts ≤ 64) (iv_ko_10 : klineMany ≤ 40) (iv_ko_11 : knodes ≤ 60) (iv_ko_12 : konesMany ≤ 20) (iv_ko_13 : kwithin ≤ 8) (iv_ko_14 : ktop ≤ 59) (ha : aq ≤ 156) : Met l yX12_readStir wsX12_readStir ({ frames := 4, cells := 0, slots := 0, locals := 91 }) (PcU dC dI ky [.ref o, .int (nI aq)] [(o, .inr (12, [.int kthrown, .ref ktape, .int (nI ktaped), .int (nI ksize), .int (nI klimit), .int (nI kto), .int (nI kfrom), .int kkind, .int knumber, .int ksign, .int kfault, .int kplace, .long kword, .int ktold, .ref know, .ref kread, .ref kkept, .ref ksnaps, .ref kaside, .ref kname, .ref kreadName, .ref kkeptName, .ref kisKept, .ref konces, .int (nI ksnapMany), .int khasCells, .ref kpoured, .ref kfar, .ref ksides, .int (nI ksideMany), .int kwayDays, .int khasWay, .ref klines, .ref kmet, .int (nI kmetMany), .ref ksunk, .ref ktrying, .int (nI ksunkMany), .int ksending, .int kfleets, .ref ktext, .int (nI ktexts), .int kseed, .ref kline, .ref kwritten, .int (nI klineMany), .int khasWritten, .ref knode, .int (nI knodes), .int (nI konesMany), .int (nI kwithin), .int (nI ktop)])), (ktape, .inl (ky 0, 940, .inl ktapeF)), (kline, .inl (ky 0, 160, .inl klineF))] sz) (va_Qi (fun (r : Int32) (u : Nat × Nat × Int32 × Int32 × Int32 × Int32 × Int32 × Int64 × Int32 × (Nat → Int32)) => match u with | (ktoG, kfromG, kkindG, knumberG, ksignG, kfaultG, kplaceG, kwordG, ktoldG, klineG) => ((r = nI 1 ∧ ((∀ j9, j9 < aq + 1 → klineG j9 = klineF j9) ∧ 0 ≤ (klineG (aq + 1)).toInt ∧ (klineG (aq + 1)).toInt ≤ 1 ∧ 0 ≤ (klineG (aq + 2)).toInt ∧ (klineG (aq + 2)).toInt ≤ 5 ∧ 0 ≤ (klineG (aq + 3)).toInt ∧ (klineG (aq + 3)).toInt ≤ 1)) ∨ (r = nI 0 ∧ (True))) ∧ (ktoG ≤ ksize) ∧ (kfromG ≤ 940)) (BU dC dI ky (fun (u : Nat × Nat × Int32 × Int32 × Int32 × Int32 × Int32 × Int64 × Int32 × (Nat → Int32)) => match u with | (ktoG, kfromG, kkindG, knumberG, ksignG, kfaultG, kplaceG, kwordG, ktoldG, klineG) => [(o, .inr (12, [.int kthrown, .ref ktape, .int (nI ktaped), .int (nI ksize), .int (nI klimit), .int (nI ktoG), .int (nI kfromG), .int kkindG, .int knumberG, .int ksignG, .int kfaultG, .int kplaceG, .long kwordG, .int ktoldG, .ref know, .ref kread, .ref kkept, .ref ksnaps, .ref kaside, .ref kname, .ref kreadName, .ref kkeptName, .ref kisKept, .ref konces, .int (nI ksnapMany), .int khasCells, .ref kpoured, .ref kfar, .ref ksides, .int (nI ksideMany), .int kwayDays, .int khasWay, .ref klines, .ref kmet, .int (nI kmetMany), .ref ksunk, .ref ktrying, .int (nI ksunkMany), .int ksending, .int kfleets, .ref ktext, .int (nI ktexts), .int kseed, .ref kline, .ref kwritten, .int (nI klineMany), .int khasWritten, .ref knode, .int (nI knodes), .int (nI konesMany), .int (nI kwithin), .int (nI ktop)])), (ktape, .inl (ky 0, 940, .inl ktapeF)), (kline, .inl (ky 0, 160, .inl klineG))]) (va_A [(o, .inr (12, [.int kthrown, .ref ktape, .int (nI ktaped), .int (nI ksize), .int (nI klimit), .int (nI kto), .int (nI kfrom), .int kkind, .int knumber, .int ksign, .int kfault, .int kplace, .long kword, .int ktold, .ref know, .ref kread, .ref kkept, .ref ksnaps, .ref kaside, .ref kname, .ref kreadName, .ref kkeptName, .ref kisKept, .ref konces, .int (nI ksnapMany), .int khasCells, .ref kpoured, .ref kfar, .ref ksides, .int (nI ksideMany), .int kwayDays, .int khasWay, .ref klines, .ref kmet, .int (nI kmetMany), .ref ksunk, .ref ktrying, .int (nI ksunkMany), .int ksending, .int kfleets, .ref ktext, .int (nI ktexts), .int kseed, .ref kline, .ref kwritten, .int (nI klineMany), .int khasWritten, .ref knode, .int (nI knodes), .int (nI konesMany), .int (nI kwithin), .int (nI ktop)])), (ktape, .inl (ky 0, 940, .inl ktapeF)), (kline, .inl (ky 0, 160, .inl klineF))] sz)) (va_A [(o, .inr (12, [.int kthrown, .ref ktape, .int (nI ktaped), .int (nI ksize), .int (nI klimit), .int (nI kto), .int (nI kfrom), .int kkind, .int knumber, .int ksign, .int kfault, .int kplace, .long kword, .int ktold, .ref know, .ref kread, .ref kkept, .ref ksnaps, .ref kaside, .ref kname, .ref kreadName, .ref kkeptName, .ref kisKept, .ref konces, .int (nI ksnapMany), .int khasCells, .ref kpoured, .ref kfar, .ref ksides, .int (nI ksideMany), .int kwayDays, .int khasWay, .ref klines, .ref kmet, .int (nI kmetMany), .ref ksunk, .ref ktrying, .int (nI ksunkMany), .int ksending, .int kfleets, .ref ktext, .int (nI ktexts), .int kseed, .ref kline, .ref kwritten, .int (nI klineMany), .int khasWritten, .ref knode, .int (nI knodes), .int (nI konesMany), .int (nI kwithin), .int (nI ktop)])), (ktape, .inl (ky 0, 940, .inl ktapeF)), (kline, .inl (ky 0, 160, .inl klineF))] sz)) 0 0 (va_A [(o, .inr (12, [.int kthrown, .ref ktape, .int (nI ktaped), .int (nI ksize), .int (nI klimit), .int (nI kto), .int (nI kfrom), .int kkind, .int knumber, .int ksign, .int kfault, .int kplace, .long kword, .int ktold, .ref know, .ref kread, .ref kkept, .ref ksnaps, .ref kaside, .ref kname, .ref kreadName, .ref kkeptName, .ref kisKept, .ref konces, .int (nI ksnapMany), .int khasCells, .ref kpoured, .ref kfar, .ref ksides, .int (nI ksideMany), .int kwayDays, .int khasWay, .ref klines, .ref kmet, .int (nI kmetMany), .ref ksunk, .ref ktrying, .int (nI ksunkMany), .int ksending, .int kfleets, .ref ktext, .int (nI ktexts), .int kseed, .ref kline, .ref kwritten, .int (nI klineMany), .int khasWritten, .ref knode, .int (nI knodes), .int (nI konesMany), .int (nI kwithin), .int (nI ktop)])), (ktape, .inl (ky 0, 940, .inl ktapeF)), (kline, .inl (ky 0, 160, .inl klineF))] sz) := by
  refine Met.ofW (cc := cX12_readStir) (maxL := 2) (ret := (some .boolean)) (by decide) rfl ?_
  intro p e s m args below meth c s₁ B hml hv
  obtain ⟨rfl, hsz, hP, hK, hD0⟩ := hv
  have hx := B.exec
  have hb := B.bytes
  have hr := B.returns
  have hts := atoms_spec (ws := wsX12_readStir) B.pre
  have hown : s.vm.findClass RX12 = some m.cls := findClass_of_methodNamed B.named
  have hlocks := B.notSynchronized
  subst hsz
  have hD := hD0.self (sz := s.heap.size)
  generalize hAe : va_A [(o, .inr (12, [.int kthrown, .ref ktape, .int (nI ktaped), .int (nI ksize), .int (nI klimit), .int (nI kto), .int (nI kfrom), .int kkind, .int knumber, .int ksign, .int kfault, .int kplace, .long kword, .int ktold, .ref know, .ref kread, .ref kkept, .ref ksnaps, .ref kaside, .ref kname, .ref kreadName, .ref kkeptName, .ref kisKept, .ref konces, .int (nI ksnapMany), .int khasCells, .ref kpoured, .ref kfar, .ref ksides, .int (nI ksideMany), .int kwayDays, .int khasWay, .ref klines, .ref kmet, .int (nI kmetMany), .ref ksunk, .ref ktrying, .int (nI ksunkMany), .int ksending, .int kfleets, .ref ktext, .int (nI ktexts), .int kseed, .ref kline, .ref kwritten, .int (nI klineMany), .int khasWritten, .ref knode, .int (nI knodes), .int (nI konesMany), .int (nI kwithin), .int (nI ktop)])), (ktape, .inl (ky 0, 940, .inl ktapeF)), (kline, .inl (ky 0, 160, .inl klineF))] s.heap.size = A at hD ⊢
  have hA : ∀ q : Nat, s.heap.size ≤ q → A q := fun q h => by rw [← hAe]; exact Or.inr h
  have hS : va_S A s.heap s.heap [] := va_S.rf
  have hl := lv_entry ([.ref o, .int (nI aq)]) (n := 2) (Nat.le_of_ble_eq_true rfl)
  rw [lg_entry_eq]
  generalize (lg_sl ([.ref o, .int (nI aq)]) ++ List.replicate (2 - (lg_sl ([.ref o, .int (nI aq)])).length) Slot.unset).toArray = ls at hl ⊢
  have hl : lv_has ls 2 [(0, .ref o), (1, .int (nI aq))] := hl
  refine q_name (fun Q hQ => ?_)
  generalize ([.ref o, .int (nI aq)] : List Value).toArray = args at hts hQ ⊢
  refine lv_aload_n hx hb dX12_readStir_0 rfl (lv_at hl 0 rfl) ?_
  refine lv_iload_n hx hb dX12_readStir_1 rfl (lv_at hl 1 rfl) ?_
  refine lv_iconst (v := nI 1) hx hb dX12_readStir_2 (by decide) ?_
  refine lv_iadd hx hb dX12_readStir_3 ?_
  refine r_ti (nI (aq + 1)) (nI_add _ _) ?_
  refine lv_aload_n hx hb dX12_readStir_4 rfl (lv_at hl 0 rfl) ?_
  refine lv_bipush (v := nI 8) hx hb dX12_readStir_5 (by decide) ?_
  refine lv_bipush (v := nI 9) hx hb dX12_readStir_7 (by decide) ?_
  refine r_call_i (wr := [(kline, .inl (ky 0, 160, .inl klineF))]) (va_runV (As := [.int (nI 8), .int (nI 9)]) (rest := [.int (nI (aq + 1)), .ref o]) ⟨hx, hb, hml, hown, hts⟩ (c_x_readOneOf l dC dI ky s.heap.size o kthrown ktape ktaped ksize klimit kto kfrom kkind knumber ksign kfault kplace kword ktold know kread kkept ksnaps kaside kname kreadName kkeptName kisKept konces ksnapMany khasCells kpoured kfar ksides ksideMany kwayDays khasWay klines kmet kmetMany ksunk ktrying ksunkMany ksending kfleets ktext ktexts kseed kline kwritten klineMany khasWritten knode knodes konesMany kwithin ktop ktapeF 8 9 iv_ko_0 iv_ko_1 iv_ko_2 iv_ko_3 iv_ko_4 iv_ko_5 iv_ko_6 iv_ko_7 iv_ko_8 iv_ko_9 iv_ko_10 iv_ko_11 iv_ko_12 iv_ko_13 iv_ko_14 (lf_x_readStir_1) (lf_x_readStir_2)) (cwV 2 hts gX12_readStir_X12_readOneOf rfl rfl rfl (by decide +kernel) ⟨(Nat.le_of_ble_eq_true rfl), (Nat.le_of_ble_eq_true rfl)⟩) (pre_UV hK hP hD [0, 1] (by decide) rfl (ci := 12) (q0 := 0) rfl rfl) rfl rfl hl.1 rfl (lv_room (Nat.le_of_ble_eq_true rfl)) dX12_readStir_9 ⟨(Nat.le_of_ble_eq_true rfl), (Nat.le_of_ble_eq_true rfl)⟩) hP hD hS hA [0, 1] [2] rfl rfl (by decide) (by decide) (fun r3 u1 H locs p2 hP hD hS => ?_)
  obtain ⟨ktoG_4, kfromG_5, kkindG_6, knumberG_7, ksignG_8, kfaultG_9, kplaceG_10, kwordG_11, ktoldG_12⟩ := u1
  try dsimp only at p2
  obtain ⟨p13, p14, p15⟩ := p2
  refine W.widen (k := 0) (n := 0) (Nat.le_of_ble_eq_true rfl) (Nat.le_of_ble_eq_true rfl) ?_
  have hP : va_P (dC, dI) vwCl [(kline, .inl (ky 0, 160, .inl klineF)), (o, .inr (12, [.int kthrown, .ref ktape, .int (nI ktaped), .int (nI ksize), .int (nI klimit), .int (nI ktoG_4), .int (nI kfromG_5), .int kkindG_6, .int knumberG_7, .int ksignG_8, .int kfaultG_9, .int kplaceG_10, .long kwordG_11, .int ktoldG_12, .ref know, .ref kread, .ref kkept, .ref ksnaps, .ref kaside, .ref kname, .ref kreadName, .ref kkeptName, .ref kisKept, .ref konces, .int (nI ksnapMany), .int khasCells, .ref kpoured, .ref kfar, .ref ksides, .int (nI ksideMany), .int kwayDays, .int khasWay, .ref klines, .ref kmet, .int (nI kmetMany), .ref ksunk, .ref ktrying, .int (nI ksunkMany), .int ksending, .int kfleets, .ref ktext, .int (nI ktexts), .int kseed, .ref kline, .ref kwritten, .int (nI klineMany), .int khasWritten, .ref knode, .int (nI knodes), .int (nI konesMany), .int (nI kwithin), .int (nI ktop)])), (ktape, .inl (ky 0, 940, .inl ktapeF))] H := hP
  have hD : va_D A [(kline, .inl (ky 0, 160, .inl klineF)), (o, .inr (12, [.int kthrown, .ref ktape, .int (nI ktaped), .int (nI ksize), .int (nI klimit), .int (nI ktoG_4), .int (nI kfromG_5), .int kkindG_6, .int knumberG_7, .int ksignG_8, .int kfaultG_9, .int kplaceG_10, .long kwordG_11, .int ktoldG_12, .ref know, .ref kread, .ref kkept, .ref ksnaps, .ref kaside, .ref kname, .ref kreadName, .ref kkeptName, .ref kisKept, .ref konces, .int (nI ksnapMany), .int khasCells, .ref kpoured, .ref kfar, .ref ksides, .int (nI ksideMany), .int kwayDays, .int khasWay, .ref klines, .ref kmet, .int (nI kmetMany), .ref ksunk, .ref ktrying, .int (nI ksunkMany), .int ksending, .int kfleets, .ref ktext, .int (nI ktexts), .int kseed, .ref kline, .ref kwritten, .int (nI klineMany), .int khasWritten, .ref knode, .int (nI knodes), .int (nI konesMany), .int (nI kwithin), .int (nI ktop)])), (ktape, .inl (ky 0, 940, .inl ktapeF))] := hD
  rcases p13 with ⟨rfl, t16, t17⟩ | ⟨rfl, t18⟩
  · refine r_call_i (wr := [(ktape, .inl (ky 0, 940, .inl ktapeF))]) (va_runV (As := [.int (nI (aq + 1)), .int (nI 1)]) (rest := []) ⟨hx, hb, hml, hown, hts⟩ (c_x_keep1 l dC dI ky H.size o kthrown ktape ktaped ksize klimit ktoG_4 kfromG_5 kkindG_6 knumberG_7 ksignG_8 kfaultG_9 kplaceG_10 kwordG_11 ktoldG_12 know kread kkept ksnaps kaside kname kreadName kkeptName kisKept konces ksnapMany khasCells kpoured kfar ksides ksideMany kwayDays khasWay klines kmet kmetMany ksunk ktrying ksunkMany ksending kfleets ktext ktexts kseed kline kwritten klineMany khasWritten knode knodes konesMany kwithin ktop klineF (aq + 1) iv_ko_0 iv_ko_1 iv_ko_2 p14 p15 iv_ko_5 iv_ko_6 iv_ko_7 iv_ko_8 iv_ko_9 iv_ko_10 iv_ko_11 iv_ko_12 iv_ko_13 iv_ko_14 (lf_x_readStir_3 aq ha)) (cwV 2 hts gX12_readStir_X12_keep rfl rfl rfl (by decide +kernel) ⟨(Nat.le_of_ble_eq_true rfl), (Nat.le_of_ble_eq_true rfl)⟩) (pre_UV hK hP hD [1, 0] (by decide) rfl (ci := 12) (q0 := 1) rfl rfl) rfl rfl hl.1 rfl (lv_room (Nat.le_of_ble_eq_true rfl)) dX12_readStir_12 ⟨(Nat.le_of_ble_eq_true rfl), (Nat.le_of_ble_eq_true rfl)⟩) hP hD hS hA [1, 0] [2] rfl rfl (by decide) (by decide) (fun r21 u19 H locs p20 hP hD hS => ?_)
    obtain ⟨klineG_22, rfl⟩ : ∃ z, z = u19 := ⟨_, rfl⟩
    try dsimp only at p20
    obtain ⟨p23, p24⟩ := p20
    refine W.widen (k := 0) (n := 0) (Nat.le_of_ble_eq_true rfl) (Nat.le_of_ble_eq_true rfl) ?_
    have hP : va_P (dC, dI) vwCl [(ktape, .inl (ky 0, 940, .inl ktapeF)), (o, .inr (12, [.int kthrown, .ref ktape, .int (nI ktaped), .int (nI ksize), .int (nI klimit), .int (nI ktoG_4), .int (nI kfromG_5), .int kkindG_6, .int knumberG_7, .int ksignG_8, .int kfaultG_9, .int kplaceG_10, .long kwordG_11, .int ktoldG_12, .ref know, .ref kread, .ref kkept, .ref ksnaps, .ref kaside, .ref kname, .ref kreadName, .ref kkeptName, .ref kisKept, .ref konces, .int (nI ksnapMany), .int khasCells, .ref kpoured, .ref kfar, .ref ksides, .int (nI ksideMany), .int kwayDays, .int khasWay, .ref klines, .ref kmet, .int (nI kmetMany), .ref ksunk, .ref ktrying, .int (nI ksunkMany), .int ksending, .int kfleets, .ref ktext, .int (nI ktexts), .int kseed, .ref kline, .ref kwritten, .int (nI klineMany), .int khasWritten, .ref knode, .int (nI knodes), .int (nI konesMany), .int (nI kwithin), .int (nI ktop)])), (kline, .inl (ky 0, 160, .inl klineG_22))] H := hP
    have hD : va_D A [(ktape, .inl (ky 0, 940, .inl ktapeF)), (o, .inr (12, [.int kthrown, .ref ktape, .int (nI ktaped), .int (nI ksize), .int (nI klimit), .int (nI ktoG_4), .int (nI kfromG_5), .int kkindG_6, .int knumberG_7, .int ksignG_8, .int kfaultG_9, .int kplaceG_10, .long kwordG_11, .int ktoldG_12, .ref know, .ref kread, .ref kkept, .ref ksnaps, .ref kaside, .ref kname, .ref kreadName, .ref kkeptName, .ref kisKept, .ref konces, .int (nI ksnapMany), .int khasCells, .ref kpoured, .ref kfar, .ref ksides, .int (nI ksideMany), .int kwayDays, .int khasWay, .ref klines, .ref kmet, .int (nI kmetMany), .ref ksunk, .ref ktrying, .int (nI ksunkMany), .int ksending, .int kfleets, .ref ktext, .int (nI ktexts), .int kseed, .ref kline, .ref kwritten, .int (nI klineMany), .int khasWritten, .ref knode, .int (nI knodes), .int (nI konesMany), .int (nI kwithin), .int (nI ktop)])), (kline, .inl (ky 0, 160, .inl klineG_22))] := hD
    subst p23
    refine lv_if_eq (tgt := 56) hx hb dX12_readStir_15 (by decide) (fun c25 => absurd c25 (by decide)) (fun c25 => ?_)
    refine lv_aload_n hx hb dX12_readStir_18 rfl (lv_at hl 0 rfl) ?_
    refine lv_iload_n hx hb dX12_readStir_19 rfl (lv_at hl 1 rfl) ?_
    refine lv_iconst (v := nI 2) hx hb dX12_readStir_20 (by decide) ?_
    refine lv_iadd hx hb dX12_readStir_21 ?_
    refine r_ti (nI (aq + 2)) (nI_add _ _) ?_
    refine lv_aload_n hx hb dX12_readStir_22 rfl (lv_at hl 0 rfl) ?_
    refine lv_iconst (v := nI 0) hx hb dX12_readStir_23 (by decide) ?_
    refine lv_iconst (v := nI 5) hx hb dX12_readStir_24 (by decide) ?_
    refine r_call_i (wr := [(kline, .inl (ky 0, 160, .inl klineG_22))]) (va_runV (As := [.int (nI 0), .int (nI 5)]) (rest := [.int (nI (aq + 2)), .ref o]) ⟨hx, hb, hml, hown, hts⟩ (c_x_readNumberP l dC dI ky H.size o kthrown ktape ktaped ksize klimit ktoG_4 kfromG_5 kkindG_6 knumberG_7 ksignG_8 kfaultG_9 kplaceG_10 kwordG_11 ktoldG_12 know kread kkept ksnaps kaside kname kreadName kkeptName kisKept konces ksnapMany khasCells kpoured kfar ksides ksideMany kwayDays khasWay klines kmet kmetMany ksunk ktrying ksunkMany ksending kfleets ktext ktexts kseed kline kwritten klineMany khasWritten knode knodes konesMany kwithin ktop ktapeF (nI 0) (nI 5) iv_ko_0 iv_ko_1 iv_ko_2 p14 p15 iv_ko_5 iv_ko_6 iv_ko_7 iv_ko_8 iv_ko_9 iv_ko_10 iv_ko_11 iv_ko_12 iv_ko_13 iv_ko_14) (cwV 2 hts gX12_readStir_X12_readNumber rfl rfl rfl (by decide +kernel) ⟨(Nat.le_of_ble_eq_true rfl), (Nat.le_of_ble_eq_true rfl)⟩) (pre_UV hK hP hD [1, 0] (by decide) rfl (ci := 12) (q0 := 1) rfl rfl) rfl rfl hl.1 rfl (lv_room (Nat.le_of_ble_eq_true rfl)) dX12_readStir_25 ⟨(Nat.le_of_ble_eq_true rfl), (Nat.le_of_ble_eq_true rfl)⟩) hP hD hS hA [1, 0] [2] rfl rfl (by decide) (by decide) (fun r28 u26 H locs p27 hP hD hS => ?_)
    obtain ⟨ktoG_29, kfromG_30, kkindG_31, knumberG_32, ksignG_33, kfaultG_34, kplaceG_35, kwordG_36, ktoldG_37⟩ := u26
    try dsimp only at p27
    obtain ⟨p38, p39, p40⟩ := p27
    refine W.widen (k := 0) (n := 0) (Nat.le_of_ble_eq_true rfl) (Nat.le_of_ble_eq_true rfl) ?_
    have hP : va_P (dC, dI) vwCl [(kline, .inl (ky 0, 160, .inl klineG_22)), (o, .inr (12, [.int kthrown, .ref ktape, .int (nI ktaped), .int (nI ksize), .int (nI klimit), .int (nI ktoG_29), .int (nI kfromG_30), .int kkindG_31, .int knumberG_32, .int ksignG_33, .int kfaultG_34, .int kplaceG_35, .long kwordG_36, .int ktoldG_37, .ref know, .ref kread, .ref kkept, .ref ksnaps, .ref kaside, .ref kname, .ref kreadName, .ref kkeptName, .ref kisKept, .ref konces, .int (nI ksnapMany), .int khasCells, .ref kpoured, .ref kfar, .ref ksides, .int (nI ksideMany), .int kwayDays, .int khasWay, .ref klines, .ref kmet, .int (nI kmetMany), .ref ksunk, .ref ktrying, .int (nI ksunkMany), .int ksending, .int kfleets, .ref ktext, .int (nI ktexts), .int kseed, .ref kline, .ref kwritten, .int (nI klineMany), .int khasWritten, .ref knode, .int (nI knodes), .int (nI konesMany), .int (nI kwithin), .int (nI ktop)])), (ktape, .inl (ky 0, 940, .inl ktapeF))] H := hP
    have hD : va_D A [(kline, .inl (ky 0, 160, .inl klineG_22)), (o, .inr (12, [.int kthrown, .ref ktape, .int (nI ktaped), .int (nI ksize), .int (nI klimit), .int (nI ktoG_29), .int (nI kfromG_30), .int kkindG_31, .int knumberG_32, .int ksignG_33, .int kfaultG_34, .int kplaceG_35, .long kwordG_36, .int ktoldG_37, .ref know, .ref kread, .ref kkept, .ref ksnaps, .ref kaside, .ref kname, .ref kreadName, .ref kkeptName, .ref kisKept, .ref konces, .int (nI ksnapMany), .int khasCells, .ref kpoured, .ref kfar, .ref ksides, .int (nI ksideMany), .int kwayDays, .int khasWay, .ref klines, .ref kmet, .int (nI kmetMany), .ref ksunk, .ref ktrying, .int (nI ksunkMany), .int ksending, .int kfleets, .ref ktext, .int (nI ktexts), .int kseed, .ref kline, .ref kwritten, .int (nI klineMany), .int khasWritten, .ref knode, .int (nI knodes), .int (nI konesMany), .int (nI kwithin), .int (nI ktop)])), (ktape, .inl (ky 0, 940, .inl ktapeF))] := hD
    rcases p38 with ⟨rfl, t41, t42, t43, t44, t45⟩ | ⟨rfl, t46⟩
    · refine r_call_i (wr := [(ktape, .inl (ky 0, 940, .inl ktapeF))]) (va_runV (As := [.int (nI (aq + 2)), .int (nI 1)]) (rest := []) ⟨hx, hb, hml, hown, hts⟩ (c_x_keep1 l dC dI ky H.size o kthrown ktape ktaped ksize klimit ktoG_29 kfromG_30 kkindG_31 knumberG_32 ksignG_33 kfaultG_34 kplaceG_35 kwordG_36 ktoldG_37 know kread kkept ksnaps kaside kname kreadName kkeptName kisKept konces ksnapMany khasCells kpoured kfar ksides ksideMany kwayDays khasWay klines kmet kmetMany ksunk ktrying ksunkMany ksending kfleets ktext ktexts kseed kline kwritten klineMany khasWritten knode knodes konesMany kwithin ktop klineG_22 (aq + 2) iv_ko_0 iv_ko_1 iv_ko_2 p39 p40 iv_ko_5 iv_ko_6 iv_ko_7 iv_ko_8 iv_ko_9 iv_ko_10 iv_ko_11 iv_ko_12 iv_ko_13 iv_ko_14 (lf_x_readStir_4 klineF aq ktoldG_12 klineG_22 ha t16 t17 p24)) (cwV 2 hts gX12_readStir_X12_keep rfl rfl rfl (by decide +kernel) ⟨(Nat.le_of_ble_eq_true rfl), (Nat.le_of_ble_eq_true rfl)⟩) (pre_UV hK hP hD [1, 0] (by decide) rfl (ci := 12) (q0 := 1) rfl rfl) rfl rfl hl.1 rfl (lv_room (Nat.le_of_ble_eq_true rfl)) dX12_readStir_28 ⟨(Nat.le_of_ble_eq_true rfl), (Nat.le_of_ble_eq_true rfl)⟩) hP hD hS hA [1, 0] [2] rfl rfl (by decide) (by decide) (fun r49 u47 H locs p48 hP hD hS => ?_)
      obtain ⟨klineG_50, rfl⟩ : ∃ z, z = u47 := ⟨_, rfl⟩
      try dsimp only at p48
      obtain ⟨p51, p52⟩ := p48
      refine W.widen (k := 0) (n := 0) (Nat.le_of_ble_eq_true rfl) (Nat.le_of_ble_eq_true rfl) ?_
      have hP : va_P (dC, dI) vwCl [(ktape, .inl (ky 0, 940, .inl ktapeF)), (o, .inr (12, [.int kthrown, .ref ktape, .int (nI ktaped), .int (nI ksize), .int (nI klimit), .int (nI ktoG_29), .int (nI kfromG_30), .int kkindG_31, .int knumberG_32, .int ksignG_33, .int kfaultG_34, .int kplaceG_35, .long kwordG_36, .int ktoldG_37, .ref know, .ref kread, .ref kkept, .ref ksnaps, .ref kaside, .ref kname, .ref kreadName, .ref kkeptName, .ref kisKept, .ref konces, .int (nI ksnapMany), .int khasCells, .ref kpoured, .ref kfar, .ref ksides, .int (nI ksideMany), .int kwayDays, .int khasWay, .ref klines, .ref kmet, .int (nI kmetMany), .ref ksunk, .ref ktrying, .int (nI ksunkMany), .int ksending, .int kfleets, .ref ktext, .int (nI ktexts), .int kseed, .ref kline, .ref kwritten, .int (nI klineMany), .int khasWritten, .ref knode, .int (nI knodes), .int (nI konesMany), .int (nI kwithin), .int (nI ktop)])), (kline, .inl (ky 0, 160, .inl klineG_50))] H := hP
      have hD : va_D A [(ktape, .inl (ky 0, 940, .inl ktapeF)), (o, .inr (12, [.int kthrown, .ref ktape, .int (nI ktaped), .int (nI ksize), .int (nI klimit), .int (nI ktoG_29), .int (nI kfromG_30), .int kkindG_31, .int knumberG_32, .int ksignG_33, .int kfaultG_34, .int kplaceG_35, .long kwordG_36, .int ktoldG_37, .ref know, .ref kread, .ref kkept, .ref ksnaps, .ref kaside, .ref kname, .ref kreadName, .ref kkeptName, .ref kisKept, .ref konces, .int (nI ksnapMany), .int khasCells, .ref kpoured, .ref kfar, .ref ksides, .int (nI ksideMany), .int kwayDays, .int khasWay, .ref klines, .ref kmet, .int (nI kmetMany), .ref ksunk, .ref ktrying, .int (nI ksunkMany), .int ksending, .int kfleets, .ref ktext, .int (nI ktexts), .int kseed, .ref kline, .ref kwritten, .int (nI klineMany), .int khasWritten, .ref knode, .int (nI knodes), .int (nI konesMany), .int (nI kwithin), .int (nI ktop)])), (kline, .inl (ky 0, 160, .inl klineG_50))] := hD
      subst p51
      refine lv_if_eq (tgt := 56) hx hb dX12_readStir_31 (by decide) (fun c53 => absurd c53 (by decide)) (fun c53 => ?_)
      refine lv_aload_n hx hb dX12_readStir_34 rfl (lv_at hl 0 rfl) ?_
      refine lv_iload_n hx hb dX12_readStir_35 rfl (lv_at hl 1 rfl) ?_
      refine lv_iconst (v := nI 3) hx hb dX12_readStir_36 (by decide) ?_
      refine lv_iadd hx hb dX12_readStir_37 ?_
      refine r_ti (nI (aq + 3)) (nI_add _ _) ?_
      refine lv_aload_n hx hb dX12_readStir_38 rfl (lv_at hl 0 rfl) ?_
      refine lv_bipush (v := nI 10) hx hb dX12_readStir_39 (by decide) ?_
      refine lv_bipush (v := nI 11) hx hb dX12_readStir_41 (by decide) ?_
      refine r_call_i (wr := [(kline, .inl (ky 0, 160, .inl klineG_50))]) (va_runV (As := [.int (nI 10), .int (nI 11)]) (rest := [.int (nI (aq + 3)), .ref o]) ⟨hx, hb, hml, hown, hts⟩ (c_x_readOneOf l dC dI ky H.size o kthrown ktape ktaped ksize klimit ktoG_29 kfromG_30 kkindG_31 knumberG_32 ksignG_33 kfaultG_34 kplaceG_35 kwordG_36 ktoldG_37 know kread kkept ksnaps kaside kname kreadName kkeptName kisKept konces ksnapMany khasCells kpoured kfar ksides ksideMany kwayDays khasWay klines kmet kmetMany ksunk ktrying ksunkMany ksending kfleets ktext ktexts kseed kline kwritten klineMany khasWritten knode knodes konesMany kwithin ktop ktapeF 10 11 iv_ko_0 iv_ko_1 iv_ko_2 p39 p40 iv_ko_5 iv_ko_6 iv_ko_7 iv_ko_8 iv_ko_9 iv_ko_10 iv_ko_11 iv_ko_12 iv_ko_13 iv_ko_14 (lf_x_readStir_5) (lf_x_readStir_6)) (cwV 2 hts gX12_readStir_X12_readOneOf rfl rfl rfl (by decide +kernel) ⟨(Nat.le_of_ble_eq_true rfl), (Nat.le_of_ble_eq_true rfl)⟩) (pre_UV hK hP hD [1, 0] (by decide) rfl (ci := 12) (q0 := 1) rfl rfl) rfl rfl hl.1 rfl (lv_room (Nat.le_of_ble_eq_true rfl)) dX12_readStir_43 ⟨(Nat.le_of_ble_eq_true rfl), (Nat.le_of_ble_eq_true rfl)⟩) hP hD hS hA [1, 0] [2] rfl rfl (by decide) (by decide) (fun r56 u54 H locs p55 hP hD hS => ?_)
      obtain ⟨ktoG_57, kfromG_58, kkindG_59, knumberG_60, ksignG_61, kfaultG_62, kplaceG_63, kwordG_64, ktoldG_65⟩ := u54
      try dsimp only at p55
      obtain ⟨p66, p67, p68⟩ := p55
      refine W.widen (k := 0) (n := 0) (Nat.le_of_ble_eq_true rfl) (Nat.le_of_ble_eq_true rfl) ?_
      have hP : va_P (dC, dI) vwCl [(kline, .inl (ky 0, 160, .inl klineG_50)), (o, .inr (12, [.int kthrown, .ref ktape, .int (nI ktaped), .int (nI ksize), .int (nI klimit), .int (nI ktoG_57), .int (nI kfromG_58), .int kkindG_59, .int knumberG_60, .int ksignG_61, .int kfaultG_62, .int kplaceG_63, .long kwordG_64, .int ktoldG_65, .ref know, .ref kread, .ref kkept, .ref ksnaps, .ref kaside, .ref kname, .ref kreadName, .ref kkeptName, .ref kisKept, .ref konces, .int (nI ksnapMany), .int khasCells, .ref kpoured, .ref kfar, .ref ksides, .int (nI ksideMany), .int kwayDays, .int khasWay, .ref klines, .ref kmet, .int (nI kmetMany), .ref ksunk, .ref ktrying, .int (nI ksunkMany), .int ksending, .int kfleets, .ref ktext, .int (nI ktexts), .int kseed, .ref kline, .ref kwritten, .int (nI klineMany), .int khasWritten, .ref knode, .int (nI knodes), .int (nI konesMany), .int (nI kwithin), .int (nI ktop)])), (ktape, .inl (ky 0, 940, .inl ktapeF))] H := hP
      have hD : va_D A [(kline, .inl (ky 0, 160, .inl klineG_50)), (o, .inr (12, [.int kthrown, .ref ktape, .int (nI ktaped), .int (nI ksize), .int (nI klimit), .int (nI ktoG_57), .int (nI kfromG_58), .int kkindG_59, .int knumberG_60, .int ksignG_61, .int kfaultG_62, .int kplaceG_63, .long kwordG_64, .int ktoldG_65, .ref know, .ref kread, .ref kkept, .ref ksnaps, .ref kaside, .ref kname, .ref kreadName, .ref kkeptName, .ref kisKept, .ref konces, .int (nI ksnapMany), .int khasCells, .ref kpoured, .ref kfar, .ref ksides, .int (nI ksideMany), .int kwayDays, .int khasWay, .ref klines, .ref kmet, .int (nI kmetMany), .ref ksunk, .ref ktrying, .int (nI ksunkMany), .int ksending, .int kfleets, .ref ktext, .int (nI ktexts), .int kseed, .ref kline, .ref kwritten, .int (nI klineMany), .int khasWritten, .ref knode, .int (nI knodes), .int (nI konesMany), .int (nI kwithin), .int (nI ktop)])), (ktape, .inl (ky 0, 940, .inl ktapeF))] := hD
      rcases p66 with ⟨rfl, t69, t70⟩ | ⟨rfl, t71⟩
      · refine r_call_i (wr := [(ktape, .inl (ky 0, 940, .inl ktapeF))]) (va_runV (As := [.int (nI (aq + 3)), .int (nI 1)]) (rest := []) ⟨hx, hb, hml, hown, hts⟩ (c_x_keep1 l dC dI ky H.size o kthrown ktape ktaped ksize klimit ktoG_57 kfromG_58 kkindG_59 knumberG_60 ksignG_61 kfaultG_62 kplaceG_63 kwordG_64 ktoldG_65 know kread kkept ksnaps kaside kname kreadName kkeptName kisKept konces ksnapMany khasCells kpoured kfar ksides ksideMany kwayDays khasWay klines kmet kmetMany ksunk ktrying ksunkMany ksending kfleets ktext ktexts kseed kline kwritten klineMany khasWritten knode knodes konesMany kwithin ktop klineG_50 (aq + 3) iv_ko_0 iv_ko_1 iv_ko_2 p67 p68 iv_ko_5 iv_ko_6 iv_ko_7 iv_ko_8 iv_ko_9 iv_ko_10 iv_ko_11 iv_ko_12 iv_ko_13 iv_ko_14 (lf_x_readStir_7 klineF aq ktoldG_12 klineG_22 ktoldG_37 klineG_50 ha t16 t17 p24 t41 t42 p52)) (cwV 2 hts gX12_readStir_X12_keep rfl rfl rfl (by decide +kernel) ⟨(Nat.le_of_ble_eq_true rfl), (Nat.le_of_ble_eq_true rfl)⟩) (pre_UV hK hP hD [1, 0] (by decide) rfl (ci := 12) (q0 := 1) rfl rfl) rfl rfl hl.1 rfl (lv_room (Nat.le_of_ble_eq_true rfl)) dX12_readStir_46 ⟨(Nat.le_of_ble_eq_true rfl), (Nat.le_of_ble_eq_true rfl)⟩) hP hD hS hA [1, 0] [2] rfl rfl (by decide) (by decide) (fun r74 u72 H locs p73 hP hD hS => ?_)
        obtain ⟨klineG_75, rfl⟩ : ∃ z, z = u72 := ⟨_, rfl⟩
        try dsimp only at p73
        obtain ⟨p76, p77⟩ := p73
        refine W.widen (k := 0) (n := 0) (Nat.le_of_ble_eq_true rfl) (Nat.le_of_ble_eq_true rfl) ?_
        have hP : va_P (dC, dI) vwCl [(ktape, .inl (ky 0, 940, .inl ktapeF)), (o, .inr (12, [.int kthrown, .ref ktape, .int (nI ktaped), .int (nI ksize), .int (nI klimit), .int (nI ktoG_57), .int (nI kfromG_58), .int kkindG_59, .int knumberG_60, .int ksignG_61, .int kfaultG_62, .int kplaceG_63, .long kwordG_64, .int ktoldG_65, .ref know, .ref kread, .ref kkept, .ref ksnaps, .ref kaside, .ref kname, .ref kreadName, .ref kkeptName, .ref kisKept, .ref konces, .int (nI ksnapMany), .int khasCells, .ref kpoured, .ref kfar, .ref ksides, .int (nI ksideMany), .int kwayDays, .int khasWay, .ref klines, .ref kmet, .int (nI kmetMany), .ref ksunk, .ref ktrying, .int (nI ksunkMany), .int ksending, .int kfleets, .ref ktext, .int (nI ktexts), .int kseed, .ref kline, .ref kwritten, .int (nI klineMany), .int khasWritten, .ref knode, .int (nI knodes), .int (nI konesMany), .int (nI kwithin), .int (nI ktop)])), (kline, .inl (ky 0, 160, .inl klineG_75))] H := hP
        have hD : va_D A [(ktape, .inl (ky 0, 940, .inl ktapeF)), (o, .inr (12, [.int kthrown, .ref ktape, .int (nI ktaped), .int (nI ksize), .int (nI klimit), .int (nI ktoG_57), .int (nI kfromG_58), .int kkindG_59, .int knumberG_60, .int ksignG_61, .int kfaultG_62, .int kplaceG_63, .long kwordG_64, .int ktoldG_65, .ref know, .ref kread, .ref kkept, .ref ksnaps, .ref kaside, .ref kname, .ref kreadName, .ref kkeptName, .ref kisKept, .ref konces, .int (nI ksnapMany), .int khasCells, .ref kpoured, .ref kfar, .ref ksides, .int (nI ksideMany), .int kwayDays, .int khasWay, .ref klines, .ref kmet, .int (nI kmetMany), .ref ksunk, .ref ktrying, .int (nI ksunkMany), .int ksending, .int kfleets, .ref ktext, .int (nI ktexts), .int kseed, .ref kline, .ref kwritten, .int (nI klineMany), .int khasWritten, .ref knode, .int (nI knodes), .int (nI konesMany), .int (nI kwithin), .int (nI ktop)])), (kline, .inl (ky 0, 160, .inl klineG_75))] := hD
        subst p76
        refine lv_if_eq (tgt := 56) hx hb dX12_readStir_49 (by decide) (fun c78 => absurd c78 (by decide)) (fun c78 => ?_)
        refine lv_iconst (v := nI 1) hx hb dX12_readStir_52 (by decide) ?_
        refine lv_goto (tgt := 57) hx hb dX12_readStir_53 (by decide) ?_
        rw [hQ]
        have hP9 := hP.sub (ws' := [(o, .inr (12, [.int kthrown, .ref ktape, .int (nI ktaped), .int (nI ksize), .int (nI klimit), .int (nI ktoG_57), .int (nI kfromG_58), .int kkindG_59, .int knumberG_60, .int ksignG_61, .int kfaultG_62, .int kplaceG_63, .long kwordG_64, .int ktoldG_65, .ref know, .ref kread, .ref kkept, .ref ksnaps, .ref kaside, .ref kname, .ref kreadName, .ref kkeptName, .ref kisKept, .ref konces, .int (nI ksnapMany), .int khasCells, .ref kpoured, .ref kfar, .ref ksides, .int (nI ksideMany), .int kwayDays, .int khasWay, .ref klines, .ref kmet, .int (nI kmetMany), .ref ksunk, .ref ktrying, .int (nI ksunkMany), .int ksending, .int kfleets, .ref ktext, .int (nI ktexts), .int kseed, .ref kline, .ref kwritten, .int (nI klineMany), .int khasWritten, .ref knode, .int (nI knodes), .int (nI konesMany), .int (nI kwithin), .int (nI ktop)])), (ktape, .inl (ky 0, 940, .inl ktapeF)), (kline, .inl (ky 0, 160, .inl klineG_75))]) [1, 0, 2] rfl
        have hD9 := hD.sub (ws' := [(o, .inr (12, [.int kthrown, .ref ktape, .int (nI ktaped), .int (nI ksize), .int (nI klimit), .int (nI ktoG_57), .int (nI kfromG_58), .int kkindG_59, .int knumberG_60, .int ksignG_61, .int kfaultG_62, .int kplaceG_63, .long kwordG_64, .int ktoldG_65, .ref know, .ref kread, .ref kkept, .ref ksnaps, .ref kaside, .ref kname, .ref kreadName, .ref kkeptName, .ref kisKept, .ref konces, .int (nI ksnapMany), .int khasCells, .ref kpoured, .ref kfar, .ref ksides, .int (nI ksideMany), .int kwayDays, .int khasWay, .ref klines, .ref kmet, .int (nI kmetMany), .ref ksunk, .ref ktrying, .int (nI ksunkMany), .int ksending, .int kfleets, .ref ktext, .int (nI ktexts), .int kseed, .ref kline, .ref kwritten, .int (nI klineMany), .int khasWritten, .ref knode, .int (nI knodes), .int (nI konesMany), .int (nI kwithin), .int (nI ktop)])), (ktape, .inl (ky 0, 940, .inl ktapeF)), (kline, .inl (ky 0, 160, .inl klineG_75))]) [1, 0, 2] (by decide) rfl
        exact W.zret (v := nI 1) hx hb hr (by decide) (fun t9 ht9 hW9 => ⟨⟨nI 1, (ktoG_57, kfromG_58, kkindG_59, knumberG_60, ksignG_61, kfaultG_62, kplaceG_63, kwordG_64, ktoldG_65, klineG_75), rfl, ⟨(lf_x_readStir_8 klineF aq ktoldG_12 klineG_22 ktoldG_37 klineG_50 ktoldG_65 klineG_75 ha t16 t17 p24 t41 t42 p52 t69 t70 p77), p67, p68⟩, by rw [ht9]; exact hP9, va_K.moved hW9.alike hK, hD9⟩, hS.F ht9⟩) hS.2.2 dX12_readStir_57
      · refine vp_callSi (W.runV (As := [.int (nI (aq + 3)), .int (nI 0)]) (rest := []) ⟨hx, hb, hml, hown, hts⟩ (c_x_keep0 l dC dI ky o kthrown ktape ktaped ksize klimit ktoG_57 kfromG_58 kkindG_59 knumberG_60 ksignG_61 kfaultG_62 kplaceG_63 kwordG_64 ktoldG_65 know kread kkept ksnaps kaside kname kreadName kkeptName kisKept konces ksnapMany khasCells kpoured kfar ksides ksideMany kwayDays khasWay klines kmet kmetMany ksunk ktrying ksunkMany ksending kfleets ktext ktexts kseed kline kwritten klineMany khasWritten knode knodes konesMany kwithin ktop (nI (aq + 3)) iv_ko_0 iv_ko_1 iv_ko_2 p67 p68 iv_ko_5 iv_ko_6 iv_ko_7 iv_ko_8 iv_ko_9 iv_ko_10 iv_ko_11 iv_ko_12 iv_ko_13 iv_ko_14) (cwV 2 hts gX12_readStir_X12_keep rfl rfl rfl (by decide +kernel) ⟨(Nat.le_of_ble_eq_true rfl), (Nat.le_of_ble_eq_true rfl)⟩) (pre_PV hK hP [1] rfl (ci := 12) (q0 := 1) rfl rfl) rfl rfl hl.1 rfl (lv_room (Nat.le_of_ble_eq_true rfl)) dX12_readStir_46 ⟨(Nat.le_of_ble_eq_true rfl), (Nat.le_of_ble_eq_true rfl)⟩) (fun r79 p80 => ?_)
        subst p80
        refine lv_if_eq (tgt := 56) hx hb dX12_readStir_49 (by decide) (fun c81 => ?_) (fun c81 => absurd (by decide) c81)
        refine lv_iconst (v := nI 0) hx hb dX12_readStir_56 (by decide) ?_
        rw [hQ]
        have hP9 := hP.sub (ws' := [(o, .inr (12, [.int kthrown, .ref ktape, .int (nI ktaped), .int (nI ksize), .int (nI klimit), .int (nI ktoG_57), .int (nI kfromG_58), .int kkindG_59, .int knumberG_60, .int ksignG_61, .int kfaultG_62, .int kplaceG_63, .long kwordG_64, .int ktoldG_65, .ref know, .ref kread, .ref kkept, .ref ksnaps, .ref kaside, .ref kname, .ref kreadName, .ref kkeptName, .ref kisKept, .ref konces, .int (nI ksnapMany), .int khasCells, .ref kpoured, .ref kfar, .ref ksides, .int (nI ksideMany), .int kwayDays, .int khasWay, .ref klines, .ref kmet, .int (nI kmetMany), .ref ksunk, .ref ktrying, .int (nI ksunkMany), .int ksending, .int kfleets, .ref ktext, .int (nI ktexts), .int kseed, .ref kline, .ref kwritten, .int (nI klineMany), .int khasWritten, .ref knode, .int (nI knodes), .int (nI konesMany), .int (nI kwithin), .int (nI ktop)])), (ktape, .inl (ky 0, 940, .inl ktapeF)), (kline, .inl (ky 0, 160, .inl klineG_50))]) [1, 2, 0] rfl
        have hD9 := hD.sub (ws' := [(o, .inr (12, [.int kthrown, .ref ktape, .int (nI ktaped), .int (nI ksize), .int (nI klimit), .int (nI ktoG_57), .int (nI kfromG_58), .int kkindG_59, .int knumberG_60, .int ksignG_61, .int kfaultG_62, .int kplaceG_63, .long kwordG_64, .int ktoldG_65, .ref know, .ref kread, .ref kkept, .ref ksnaps, .ref kaside, .ref kname, .ref kreadName, .ref kkeptName, .ref kisKept, .ref konces, .int (nI ksnapMany), .int khasCells, .ref kpoured, .ref kfar, .ref ksides, .int (nI ksideMany), .int kwayDays, .int khasWay, .ref klines, .ref kmet, .int (nI kmetMany), .ref ksunk, .ref ktrying, .int (nI ksunkMany), .int ksending, .int kfleets, .ref ktext, .int (nI ktexts), .int kseed, .ref kline, .ref kwritten, .int (nI klineMany), .int khasWritten, .ref knode, .int (nI knodes), .int (nI konesMany), .int (nI kwithin), .int (nI ktop)])), (ktape, .inl (ky 0, 940, .inl ktapeF)), (kline, .inl (ky 0, 160, .inl klineG_50))]) [1, 2, 0] (by decide) rfl
        exact W.zret (v := nI 0) hx hb hr (by decide) (fun t9 ht9 hW9 => ⟨⟨nI 0, (ktoG_57, kfromG_58, kkindG_59, knumberG_60, ksignG_61, kfaultG_62, kplaceG_63, kwordG_64, ktoldG_65, klineG_50), rfl, ⟨(lf_x_readStir_9 klineF aq ktoldG_12 klineG_22 ktoldG_37 klineG_50 ha t16 t17 p24 t41 t42 p52 t71), p67, p68⟩, by rw [ht9]; exact hP9, va_K.moved hW9.alike hK, hD9⟩, hS.F ht9⟩) hS.2.2 dX12_readStir_57
    · refine vp_callSi (W.runV (As := [.int (nI (aq + 2)), .int (nI 0)]) (rest := []) ⟨hx, hb, hml, hown, hts⟩ (c_x_keep0 l dC dI ky o kthrown ktape ktaped ksize klimit ktoG_29 kfromG_30 kkindG_31 knumberG_32 ksignG_33 kfaultG_34 kplaceG_35 kwordG_36 ktoldG_37 know kread kkept ksnaps kaside kname kreadName kkeptName kisKept konces ksnapMany khasCells kpoured kfar ksides ksideMany kwayDays khasWay klines kmet kmetMany ksunk ktrying ksunkMany ksending kfleets ktext ktexts kseed kline kwritten klineMany khasWritten knode knodes konesMany kwithin ktop (nI (aq + 2)) iv_ko_0 iv_ko_1 iv_ko_2 p39 p40 iv_ko_5 iv_ko_6 iv_ko_7 iv_ko_8 iv_ko_9 iv_ko_10 iv_ko_11 iv_ko_12 iv_ko_13 iv_ko_14) (cwV 2 hts gX12_readStir_X12_keep rfl rfl rfl (by decide +kernel) ⟨(Nat.le_of_ble_eq_true rfl), (Nat.le_of_ble_eq_true rfl)⟩) (pre_PV hK hP [1] rfl (ci := 12) (q0 := 1) rfl rfl) rfl rfl hl.1 rfl (lv_room (Nat.le_of_ble_eq_true rfl)) dX12_readStir_28 ⟨(Nat.le_of_ble_eq_true rfl), (Nat.le_of_ble_eq_true rfl)⟩) (fun r82 p83 => ?_)
      subst p83
      refine lv_if_eq (tgt := 56) hx hb dX12_readStir_31 (by decide) (fun c84 => ?_) (fun c84 => absurd (by decide) c84)
      refine lv_iconst (v := nI 0) hx hb dX12_readStir_56 (by decide) ?_
      rw [hQ]
      have hP9 := hP.sub (ws' := [(o, .inr (12, [.int kthrown, .ref ktape, .int (nI ktaped), .int (nI ksize), .int (nI klimit), .int (nI ktoG_29), .int (nI kfromG_30), .int kkindG_31, .int knumberG_32, .int ksignG_33, .int kfaultG_34, .int kplaceG_35, .long kwordG_36, .int ktoldG_37, .ref know, .ref kread, .ref kkept, .ref ksnaps, .ref kaside, .ref kname, .ref kreadName, .ref kkeptName, .ref kisKept, .ref konces, .int (nI ksnapMany), .int khasCells, .ref kpoured, .ref kfar, .ref ksides, .int (nI ksideMany), .int kwayDays, .int khasWay, .ref klines, .ref kmet, .int (nI kmetMany), .ref ksunk, .ref ktrying, .int (nI ksunkMany), .int ksending, .int kfleets, .ref ktext, .int (nI ktexts), .int kseed, .ref kline, .ref kwritten, .int (nI klineMany), .int khasWritten, .ref knode, .int (nI knodes), .int (nI konesMany), .int (nI kwithin), .int (nI ktop)])), (ktape, .inl (ky 0, 940, .inl ktapeF)), (kline, .inl (ky 0, 160, .inl klineG_22))]) [1, 2, 0] rfl
      have hD9 := hD.sub (ws' := [(o, .inr (12, [.int kthrown, .ref ktape, .int (nI ktaped), .int (nI ksize), .int (nI klimit), .int (nI ktoG_29), .int (nI kfromG_30), .int kkindG_31, .int knumberG_32, .int ksignG_33, .int kfaultG_34, .int kplaceG_35, .long kwordG_36, .int ktoldG_37, .ref know, .ref kread, .ref kkept, .ref ksnaps, .ref kaside, .ref kname, .ref kreadName, .ref kkeptName, .ref kisKept, .ref konces, .int (nI ksnapMany), .int khasCells, .ref kpoured, .ref kfar, .ref ksides, .int (nI ksideMany), .int kwayDays, .int khasWay, .ref klines, .ref kmet, .int (nI kmetMany), .ref ksunk, .ref ktrying, .int (nI ksunkMany), .int ksending, .int kfleets, .ref ktext, .int (nI ktexts), .int kseed, .ref kline, .ref kwritten, .int (nI klineMany), .int khasWritten, .ref knode, .int (nI knodes), .int (nI konesMany), .int (nI kwithin), .int (nI ktop)])), (ktape, .inl (ky 0, 940, .inl ktapeF)), (kline, .inl (ky 0, 160, .inl klineG_22))]) [1, 2, 0] (by decide) rfl
      exact W.zret (v := nI 0) hx hb hr (by decide) (fun t9 ht9 hW9 => ⟨⟨nI 0, (ktoG_29, kfromG_30, kkindG_31, knumberG_32, ksignG_33, kfaultG_34, kplaceG_35, kwordG_36, ktoldG_37, klineG_22), rfl, ⟨(lf_x_readStir_10 klineF aq ktoldG_12 klineG_22 ha t16 t17 p24 t46), p39, p40⟩, by rw [ht9]; exact hP9, va_K.moved hW9.alike hK, hD9⟩, hS.F ht9⟩) hS.2.2 dX12_readStir_57
  · refine vp_callSi (W.runV (As := [.int (nI (aq + 1)), .int (nI 0)]) (rest := []) ⟨hx, hb, hml, hown, hts⟩ (c_x_keep0 l dC dI ky o kthrown ktape ktaped ksize klimit ktoG_4 kfromG_5 kkindG_6 knumberG_7 ksignG_8 kfaultG_9 kplaceG_10 kwordG_11 ktoldG_12 know kread kkept ksnaps kaside kname kreadName kkeptName kisKept konces ksnapMany khasCells kpoured kfar ksides ksideMany kwayDays khasWay klines kmet kmetMany ksunk ktrying ksunkMany ksending kfleets ktext ktexts kseed kline kwritten klineMany khasWritten knode knodes konesMany kwithin ktop (nI (aq + 1)) iv_ko_0 iv_ko_1 iv_ko_2 p14 p15 iv_ko_5 iv_ko_6 iv_ko_7 iv_ko_8 iv_ko_9 iv_ko_10 iv_ko_11 iv_ko_12 iv_ko_13 iv_ko_14) (cwV 2 hts gX12_readStir_X12_keep rfl rfl rfl (by decide +kernel) ⟨(Nat.le_of_ble_eq_true rfl), (Nat.le_of_ble_eq_true rfl)⟩) (pre_PV hK hP [1] rfl (ci := 12) (q0 := 1) rfl rfl) rfl rfl hl.1 rfl (lv_room (Nat.le_of_ble_eq_true rfl)) dX12_readStir_12 ⟨(Nat.le_of_ble_eq_true rfl), (Nat.le_of_ble_eq_true rfl)⟩) (fun r85 p86 => ?_)
    subst p86
    refine lv_if_eq (tgt := 56) hx hb dX12_readStir_15 (by decide) (fun c87 => ?_) (fun c87 => absurd (by decide) c87)
    refine lv_iconst (v := nI 0) hx hb dX12_readStir_56 (by decide) ?_
    rw [hQ]
    have hP9 := hP.sub (ws' := [(o, .inr (12, [.int kthrown, .ref ktape, .int (nI ktaped), .int (nI ksize), .int (nI klimit), .int (nI ktoG_4), .int (nI kfromG_5), .int kkindG_6, .int knumberG_7, .int ksignG_8, .int kfaultG_9, .int kplaceG_10, .long kwordG_11, .int ktoldG_12, .ref know, .ref kread, .ref kkept, .ref ksnaps, .ref kaside, .ref kname, .ref kreadName, .ref kkeptName, .ref kisKept, .ref konces, .int (nI ksnapMany), .int khasCells, .ref kpoured, .ref kfar, .ref ksides, .int (nI ksideMany), .int kwayDays, .int khasWay, .ref klines, .ref kmet, .int (nI kmetMany), .ref ksunk, .ref ktrying, .int (nI ksunkMany), .int ksending, .int kfleets, .ref ktext, .int (nI ktexts), .int kseed, .ref kline, .ref kwritten, .int (nI klineMany), .int khasWritten, .ref knode, .int (nI knodes), .int (nI konesMany), .int (nI kwithin), .int (nI ktop)])), (ktape, .inl (ky 0, 940, .inl ktapeF)), (kline, .inl (ky 0, 160, .inl klineF))]) [1, 2, 0] rfl
    have hD9 := hD.sub (ws' := [(o, .inr (12, [.int kthrown, .ref ktape, .int (nI ktaped), .int (nI ksize), .int (nI klimit), .int (nI ktoG_4), .int (nI kfromG_5), .int kkindG_6, .int knumberG_7, .int ksignG_8, .int kfaultG_9, .int kplaceG_10, .long kwordG_11, .int ktoldG_12, .ref know, .ref kread, .ref kkept, .ref ksnaps, .ref kaside, .ref kname, .ref kreadName, .ref kkeptName, .ref kisKept, .ref konces, .int (nI ksnapMany), .int khasCells, .ref kpoured, .ref kfar, .ref ksides, .int (nI ksideMany), .int kwayDays, .int khasWay, .ref klines, .ref kmet, .int (nI kmetMany), .ref ksunk, .ref ktrying, .int (nI ksunkMany), .int ksending, .int kfleets, .ref ktext, .int (nI ktexts), .int kseed, .ref kline, .ref kwritten, .int (nI klineMany), .int khasWritten, .ref knode, .int (nI knodes), .int (nI konesMany), .int (nI kwithin), .int (nI ktop)])), (ktape, .inl (ky 0, 940, .inl ktapeF)), (kline, .inl (ky 0, 160, .inl klineF))]) [1, 2, 0] (by decide) rfl
    exact W.zret (v := nI 0) hx hb hr (by decide) (fun t9 ht9 hW9 => ⟨⟨nI 0, (ktoG_4, kfromG_5, kkindG_6, knumberG_7, ksignG_8, kfaultG_9, kplaceG_10, kwordG_11, ktoldG_12, klineF), rfl, ⟨(lf_x_readStir_11 klineF aq ha t18), p14, p15⟩, by rw [ht9]; exact hP9, va_K.moved hW9.alike hK, hD9⟩, hS.F ht9⟩) hS.2.2 dX12_readStir_57
set_option maxRecDepth 20000 in
theorem lf_x_readPour_1 (aq : Nat) (ha : aq ≤ 156) : (aq + 1) < 160 := by
  try simp only [ia_lt, ia_le, ia_eq, ia_m1, ia_0, ia_1, ne_eq, true_and, and_true, false_and, and_false, or_false, false_or, or_true, true_or, not_true_eq_false, not_false_eq_true] at *
  all_goals omega
set_option maxRecDepth 20000 in
theorem lf_x_readPour_2 (klineF : Nat → Int32) (aq : Nat) (ktoldG_12 : Int32) (klineG_25 : Nat → Int32) (ha : aq ≤ 156) (t16 : (nI 0).toInt ≤ ktoldG_12.toInt) (t17 : ktoldG_12.toInt ≤ (nI 5).toInt) (p27 : klineG_25 = upd klineF (aq + 1) ktoldG_12) : (aq + 2) < 160 := by
  have b_ktoldG_12 := ia_b ktoldG_12
  try have k_0 := ia_n 0 (by first | decide | omega)
  try have k_1 := ia_n 5 (by first | decide | omega)
  try simp only [ia_lt, ia_le, ia_eq, ia_m1, ia_0, ia_1, ne_eq, true_and, and_true, false_and, and_false, or_false, false_or, or_true, true_or, not_true_eq_false, not_false_eq_true] at *
  all_goals omega
set_option maxRecDepth 20000 in
theorem lf_x_readPour_3 (klineF : Nat → Int32) (aq : Nat) (ktoldG_12 : Int32) (klineG_25 : Nat → Int32) (ktoldG_40 : Int32) (klineG_53 : Nat → Int32) (ha : aq ≤ 156) (t16 : (nI 0).toInt ≤ ktoldG_12.toInt) (t17 : ktoldG_12.toInt ≤ (nI 5).toInt) (p27 : klineG_25 = upd klineF (aq + 1) ktoldG_12) (t44 : (nI 0).toInt ≤ ktoldG_40.toInt) (t45 : ktoldG_40.toInt ≤ (nI 5).toInt) (p55 : klineG_53 = upd klineG_25 (aq + 2) ktoldG_40) : (aq + 3) < 160 := by
  have b_ktoldG_12 := ia_b ktoldG_12
  have b_ktoldG_40 := ia_b ktoldG_40
  try have k_0 := ia_n 0 (by first | decide | omega)
  try have k_1 := ia_n 5 (by first | decide | omega)
  try simp only [ia_lt, ia_le, ia_eq, ia_m1, ia_0, ia_1, ne_eq, true_and, and_true, false_and, and_false, or_false, false_or, or_true, true_or, not_true_eq_false, not_false_eq_true] at *
  all_goals omega
set_option maxRecDepth 20000 in
theorem lf_x_readPour_4 (klineF : Nat → Int32) (aq : Nat) (ktoldG_12 : Int32) (klineG_25 : Nat → Int32) (ktoldG_40 : Int32) (klineG_53 : Nat → Int32) (ktoldG_68 : Int32) (klineG_81 : Nat → Int32) (ha : aq ≤ 156) (t16 : (nI 0).toInt ≤ ktoldG_12.toInt) (t17 : ktoldG_12.toInt ≤ (nI 5).toInt) (p27 : klineG_25 = upd klineF (aq + 1) ktoldG_12) (t44 : (nI 0).toInt ≤ ktoldG_40.toInt) (t45 : ktoldG_40.toInt ≤ (nI 5).toInt) (p55 : klineG_53 = upd klineG_25 (aq + 2) ktoldG_40) (t72 : (nI 1).toInt ≤ ktoldG_68.toInt) (t73 : ktoldG_68.toInt ≤ (nI 9).toInt) (p83 : klineG_81 = upd klineG_53 (aq + 3) ktoldG_68) : ((nI 1) = nI 1 ∧ ((∀ j9, j9 < aq + 1 → klineG_81 j9 = klineF j9) ∧ 0 ≤ (klineG_81 (aq + 1)).toInt ∧ (klineG_81 (aq + 1)).toInt ≤ 5 ∧ 0 ≤ (klineG_81 (aq + 2)).toInt ∧ (klineG_81 (aq + 2)).toInt ≤ 5 ∧ 1 ≤ (klineG_81 (aq + 3)).toInt ∧ (klineG_81 (aq + 3)).toInt ≤ 9)) ∨ ((nI 1) = nI 0 ∧ (True)) := by
  refine Or.inl ⟨rfl, fun j9 hj9 => ?_, ?_, ?_, ?_, ?_, ?_, ?_⟩
  · rw [p83, upd_ne (by omega), p55, upd_ne (by omega), p27, upd_ne (by omega)]
  · rw [p83, upd_ne (by omega), p55, upd_ne (by omega), p27, upd_eq]
    have b_ktoldG_12 := ia_b ktoldG_12
    have b_ktoldG_40 := ia_b ktoldG_40
    have b_ktoldG_68 := ia_b ktoldG_68
    try have k_0 := ia_n 0 (by first | decide | omega)
    try have k_1 := ia_n 5 (by first | decide | omega)
    try have k_2 := ia_n 1 (by first | decide | omega)
    try have k_3 := ia_n 9 (by first | decide | omega)
    try simp only [ia_lt, ia_le, ia_eq, ia_m1, ia_0, ia_1, ne_eq, true_and, and_true, false_and, and_false, or_false, false_or, or_true, true_or, not_true_eq_false, not_false_eq_true] at *
    all_goals omega
  · rw [p83, upd_ne (by omega), p55, upd_ne (by omega), p27, upd_eq]
    have b_ktoldG_12 := ia_b ktoldG_12
    have b_ktoldG_40 := ia_b ktoldG_40
    have b_ktoldG_68 := ia_b ktoldG_68
    try have k_0 := ia_n 0 (by first | decide | omega)
    try have k_1 := ia_n 5 (by first | decide | omega)
    try have k_2 := ia_n 1 (by first | decide | omega)
    try have k_3 := ia_n 9 (by first | decide | omega)
    try simp only [ia_lt, ia_le, ia_eq, ia_m1, ia_0, ia_1, ne_eq, true_and, and_true, false_and, and_false, or_false, false_or, or_true, true_or, not_true_eq_false, not_false_eq_true] at *
    all_goals omega
  · rw [p83, upd_ne (by omega), p55, upd_eq]
    have b_ktoldG_12 := ia_b ktoldG_12
    have b_ktoldG_40 := ia_b ktoldG_40
    have b_ktoldG_68 := ia_b ktoldG_68
    try have k_0 := ia_n 0 (by first | decide | omega)
    try have k_1 := ia_n 5 (by first | decide | omega)
    try have k_2 := ia_n 1 (by first | decide | omega)
    try have k_3 := ia_n 9 (by first | decide | omega)
    try simp only [ia_lt, ia_le, ia_eq, ia_m1, ia_0, ia_1, ne_eq, true_and, and_true, false_and, and_false, or_false, false_or, or_true, true_or, not_true_eq_false, not_false_eq_true] at *
    all_goals omega
  · rw [p83, upd_ne (by omega), p55, upd_eq]
    have b_ktoldG_12 := ia_b ktoldG_12
    have b_ktoldG_40 := ia_b ktoldG_40
    have b_ktoldG_68 := ia_b ktoldG_68
    try have k_0 := ia_n 0 (by first | decide | omega)
    try have k_1 := ia_n 5 (by first | decide | omega)
    try have k_2 := ia_n 1 (by first | decide | omega)
    try have k_3 := ia_n 9 (by first | decide | omega)
    try simp only [ia_lt, ia_le, ia_eq, ia_m1, ia_0, ia_1, ne_eq, true_and, and_true, false_and, and_false, or_false, false_or, or_true, true_or, not_true_eq_false, not_false_eq_true] at *
    all_goals omega
  · rw [p83, upd_eq]
    have b_ktoldG_12 := ia_b ktoldG_12
    have b_ktoldG_40 := ia_b ktoldG_40
    have b_ktoldG_68 := ia_b ktoldG_68
    try have k_0 := ia_n 0 (by first | decide | omega)
    try have k_1 := ia_n 5 (by first | decide | omega)
    try have k_2 := ia_n 1 (by first | decide | omega)
    try have k_3 := ia_n 9 (by first | decide | omega)
    try simp only [ia_lt, ia_le, ia_eq, ia_m1, ia_0, ia_1, ne_eq, true_and, and_true, false_and, and_false, or_false, false_or, or_true, true_or, not_true_eq_false, not_false_eq_true] at *
    all_goals omega
  · rw [p83, upd_eq]
    have b_ktoldG_12 := ia_b ktoldG_12
    have b_ktoldG_40 := ia_b ktoldG_40
    have b_ktoldG_68 := ia_b ktoldG_68
    try have k_0 := ia_n 0 (by first | decide | omega)
    try have k_1 := ia_n 5 (by first | decide | omega)
    try have k_2 := ia_n 1 (by first | decide | omega)
    try have k_3 := ia_n 9 (by first | decide | omega)
    try simp only [ia_lt, ia_le, ia_eq, ia_m1, ia_0, ia_1, ne_eq, true_and, and_true, false_and, and_false, or_false, false_or, or_true, true_or, not_true_eq_false, not_false_eq_true] at *
    all_goals omega
set_option maxRecDepth 20000 in
theorem lf_x_readPour_5 (klineF : Nat → Int32) (aq : Nat) (ktoldG_12 : Int32) (klineG_25 : Nat → Int32) (ktoldG_40 : Int32) (klineG_53 : Nat → Int32) (ha : aq ≤ 156) (t16 : (nI 0).toInt ≤ ktoldG_12.toInt) (t17 : ktoldG_12.toInt ≤ (nI 5).toInt) (p27 : klineG_25 = upd klineF (aq + 1) ktoldG_12) (t44 : (nI 0).toInt ≤ ktoldG_40.toInt) (t45 : ktoldG_40.toInt ≤ (nI 5).toInt) (p55 : klineG_53 = upd klineG_25 (aq + 2) ktoldG_40) (t77 : True) : ((nI 0) = nI 1 ∧ ((∀ j9, j9 < aq + 1 → klineG_53 j9 = klineF j9) ∧ 0 ≤ (klineG_53 (aq + 1)).toInt ∧ (klineG_53 (aq + 1)).toInt ≤ 5 ∧ 0 ≤ (klineG_53 (aq + 2)).toInt ∧ (klineG_53 (aq + 2)).toInt ≤ 5 ∧ 1 ≤ (klineG_53 (aq + 3)).toInt ∧ (klineG_53 (aq + 3)).toInt ≤ 9)) ∨ ((nI 0) = nI 0 ∧ (True)) := by
  exact Or.inr ⟨rfl, trivial⟩
set_option maxRecDepth 20000 in
theorem lf_x_readPour_6 (klineF : Nat → Int32) (aq : Nat) (ktoldG_12 : Int32) (klineG_25 : Nat → Int32) (ha : aq ≤ 156) (t16 : (nI 0).toInt ≤ ktoldG_12.toInt) (t17 : ktoldG_12.toInt ≤ (nI 5).toInt) (p27 : klineG_25 = upd klineF (aq + 1) ktoldG_12) (t49 : True) : ((nI 0) = nI 1 ∧ ((∀ j9, j9 < aq + 1 → klineG_25 j9 = klineF j9) ∧ 0 ≤ (klineG_25 (aq + 1)).toInt ∧ (klineG_25 (aq + 1)).toInt ≤ 5 ∧ 0 ≤ (klineG_25 (aq + 2)).toInt ∧ (klineG_25 (aq + 2)).toInt ≤ 5 ∧ 1 ≤ (klineG_25 (aq + 3)).toInt ∧ (klineG_25 (aq + 3)).toInt ≤ 9)) ∨ ((nI 0) = nI 0 ∧ (True)) := by
  exact Or.inr ⟨rfl, trivial⟩
set_option maxRecDepth 20000 in
theorem lf_x_readPour_7 (klineF : Nat → Int32) (aq : Nat) (ha : aq ≤ 156) (t21 : True) : ((nI 0) = nI 1 ∧ ((∀ j9, j9 < aq + 1 → klineF j9 = klineF j9) ∧ 0 ≤ (klineF (aq + 1)).toInt ∧ (klineF (aq + 1)).toInt ≤ 5 ∧ 0 ≤ (klineF (aq + 2)).toInt ∧ (klineF (aq + 2)).toInt ≤ 5 ∧ 1 ≤ (klineF (aq + 3)).toInt ∧ (klineF (aq + 3)).toInt ≤ 9)) ∨ ((nI 0) = nI 0 ∧ (True)) := by
  exact Or.inr ⟨rfl, trivial⟩
set_option maxHeartbeats 4000000 in
set_option maxRecDepth 100000 in
theorem c_x_readPour (l : Launch) (dC : Nat → ClassId) (dI : Nat → Nat → Nat) (ky : Nat → ClassId) (sz : Nat) (o : Nat) (kthrown : Int32) (ktape : Nat) (ktaped : Nat) (ksize : Nat) (klimit : Nat) (kto : Nat) (kfrom : Nat) (kkind : Int32) (knumber : Int32) (ksign : Int32) (kfault : Int32) (kplace : Int32) (kword : Int64) (ktold : Int32) (know : Nat) (kread : Nat) (kkept : Nat) (ksnaps : Nat) (kaside : Nat) (kname : Nat) (kreadName : Nat) (kkeptName : Nat) (kisKept : Nat) (konces : Nat) (ksnapMany : Nat) (khasCells : Int32) (kpoured : Nat) (kfar : Nat) (ksides : Nat) (ksideMany : Nat) (kwayDays : Int32) (khasWay : Int32) (klines : Nat) (kmet : Nat) (kmetMany : Nat) (ksunk : Nat) (ktrying : Nat) (ksunkMany : Nat) (ksending : Int32) (kfleets : Int32) (ktext : Nat) (ktexts : Nat) (kseed : Int32) (kline : Nat) (kwritten : Nat) (klineMany : Nat) (khasWritten : Int32) (knode : Nat) (knodes : Nat) (konesMany : Nat) (kwithin : Nat) (ktop : Nat) (ktapeF : Nat → Int32) (klineF : Nat → Int32) (aq : Nat) (iv_ko_0 : ktaped ≤ 940) (iv_ko_1 : ksize ≤ 940) (iv_ko_2 : klimit ≤ 900) (iv_ko_3 : kto ≤ ksize) (iv_ko_4 : kfrom ≤ 940) (iv_ko_5 : ksnapMany ≤ 8) (iv_ko_6 : ksideMany ≤ 36) (iv_ko_7 : kmetMany ≤ 3) (iv_ko_8 : ksunkMany ≤ 36) (iv_ko_9 : ktexts ≤ 64) (iv_ko_10 : klineMany ≤ 40) (iv_ko_11 : knodes ≤ 60) (iv_ko_12 : konesMany ≤ 20) (iv_ko_13 : kwithin ≤ 8) (iv_ko_14 : ktop ≤ 59) (ha : aq ≤ 156) : Met l yX12_readPour wsX12_readPour ({ frames := 3, cells := 0, slots := 0, locals := 67 }) (PcU dC dI ky [.ref o, .int (nI aq)] [(o, .inr (12, [.int kthrown, .ref ktape, .int (nI ktaped), .int (nI ksize), .int (nI klimit), .int (nI kto), .int (nI kfrom), .int kkind, .int knumber, .int ksign, .int kfault, .int kplace, .long kword, .int ktold, .ref know, .ref kread, .ref kkept, .ref ksnaps, .ref kaside, .ref kname, .ref kreadName, .ref kkeptName, .ref kisKept, .ref konces, .int (nI ksnapMany), .int khasCells, .ref kpoured, .ref kfar, .ref ksides, .int (nI ksideMany), .int kwayDays, .int khasWay, .ref klines, .ref kmet, .int (nI kmetMany), .ref ksunk, .ref ktrying, .int (nI ksunkMany), .int ksending, .int kfleets, .ref ktext, .int (nI ktexts), .int kseed, .ref kline, .ref kwritten, .int (nI klineMany), .int khasWritten, .ref knode, .int (nI knodes), .int (nI konesMany), .int (nI kwithin), .int (nI ktop)])), (ktape, .inl (ky 0, 940, .inl ktapeF)), (kline, .inl (ky 0, 160, .inl klineF))] sz) (va_Qi (fun (r : Int32) (u : Nat × Nat × Int32 × Int32 × Int32 × Int32 × Int32 × Int64 × Int32 × (Nat → Int32)) => match u with | (ktoG, kfromG, kkindG, knumberG, ksignG, kfaultG, kplaceG, kwordG, ktoldG, klineG) => ((r = nI 1 ∧ ((∀ j9, j9 < aq + 1 → klineG j9 = klineF j9) ∧ 0 ≤ (klineG (aq + 1)).toInt ∧ (klineG (aq + 1)).toInt ≤ 5 ∧ 0 ≤ (klineG (aq + 2)).toInt ∧ (klineG (aq + 2)).toInt ≤ 5 ∧ 1 ≤ (klineG (aq + 3)).toInt ∧ (klineG (aq + 3)).toInt ≤ 9)) ∨ (r = nI 0 ∧ (True))) ∧ (ktoG ≤ ksize) ∧ (kfromG ≤ 940)) (BU dC dI ky (fun (u : Nat × Nat × Int32 × Int32 × Int32 × Int32 × Int32 × Int64 × Int32 × (Nat → Int32)) => match u with | (ktoG, kfromG, kkindG, knumberG, ksignG, kfaultG, kplaceG, kwordG, ktoldG, klineG) => [(o, .inr (12, [.int kthrown, .ref ktape, .int (nI ktaped), .int (nI ksize), .int (nI klimit), .int (nI ktoG), .int (nI kfromG), .int kkindG, .int knumberG, .int ksignG, .int kfaultG, .int kplaceG, .long kwordG, .int ktoldG, .ref know, .ref kread, .ref kkept, .ref ksnaps, .ref kaside, .ref kname, .ref kreadName, .ref kkeptName, .ref kisKept, .ref konces, .int (nI ksnapMany), .int khasCells, .ref kpoured, .ref kfar, .ref ksides, .int (nI ksideMany), .int kwayDays, .int khasWay, .ref klines, .ref kmet, .int (nI kmetMany), .ref ksunk, .ref ktrying, .int (nI ksunkMany), .int ksending, .int kfleets, .ref ktext, .int (nI ktexts), .int kseed, .ref kline, .ref kwritten, .int (nI klineMany), .int khasWritten, .ref knode, .int (nI knodes), .int (nI konesMany), .int (nI kwithin), .int (nI ktop)])), (ktape, .inl (ky 0, 940, .inl ktapeF)), (kline, .inl (ky 0, 160, .inl klineG))]) (va_A [(o, .inr (12, [.int kthrown, .ref ktape, .int (nI ktaped), .int (nI ksize), .int (nI klimit), .int (nI kto), .int (nI kfrom), .int kkind, .int knumber, .int ksign, .int kfault, .int kplace, .long kword, .int ktold, .ref know, .ref kread, .ref kkept, .ref ksnaps, .ref kaside, .ref kname, .ref kreadName, .ref kkeptName, .ref kisKept, .ref konces, .int (nI ksnapMany), .int khasCells, .ref kpoured, .ref kfar, .ref ksides, .int (nI ksideMany), .int kwayDays, .int khasWay, .ref klines, .ref kmet, .int (nI kmetMany), .ref ksunk, .ref ktrying, .int (nI ksunkMany), .int ksending, .int kfleets, .ref ktext, .int (nI ktexts), .int kseed, .ref kline, .ref kwritten, .int (nI klineMany), .int khasWritten, .ref knode, .int (nI knodes), .int (nI konesMany), .int (nI kwithin), .int (nI ktop)])), (ktape, .inl (ky 0, 940, .inl ktapeF)), (kline, .inl (ky 0, 160, .inl klineF))] sz)) (va_A [(o, .inr (12, [.int kthrown, .ref ktape, .int (nI ktaped), .int (nI ksize), .int (nI klimit), .int (nI kto), .int (nI kfrom), .int kkind, .int knumber, .int ksign, .int kfault, .int kplace, .long kword, .int ktold, .ref know, .ref kread, .ref kkept, .ref ksnaps, .ref kaside, .ref kname, .ref kreadName, .ref kkeptName, .ref kisKept, .ref konces, .int (nI ksnapMany), .int khasCells, .ref kpoured, .ref kfar, .ref ksides, .int (nI ksideMany), .int kwayDays, .int khasWay, .ref klines, .ref kmet, .int (nI kmetMany), .ref ksunk, .ref ktrying, .int (nI ksunkMany), .int ksending, .int kfleets, .ref ktext, .int (nI ktexts), .int kseed, .ref kline, .ref kwritten, .int (nI klineMany), .int khasWritten, .ref knode, .int (nI knodes), .int (nI konesMany), .int (nI kwithin), .int (nI ktop)])), (ktape, .inl (ky 0, 940, .inl ktapeF)), (kline, .inl (ky 0, 160, .inl klineF))] sz)) 0 0 (va_A [(o, .inr (12, [.int kthrown, .ref ktape, .int (nI ktaped), .int (nI ksize), .int (nI klimit), .int (nI kto), .int (nI kfrom), .int kkind, .int knumber, .int ksign, .int kfault, .int kplace, .long kword, .int ktold, .ref know, .ref kread, .ref kkept, .ref ksnaps, .ref kaside, .ref kname, .ref kreadName, .ref kkeptName, .ref kisKept, .ref konces, .int (nI ksnapMany), .int khasCells, .ref kpoured, .ref kfar, .ref ksides, .int (nI ksideMany), .int kwayDays, .int khasWay, .ref klines, .ref kmet, .int (nI kmetMany), .ref ksunk, .ref ktrying, .int (nI ksunkMany), .int ksending, .int kfleets, .ref ktext, .int (nI ktexts), .int kseed, .ref kline, .ref kwritten, .int (nI klineMany), .int khasWritten, .ref knode, .int (nI knodes), .int (nI konesMany), .int (nI kwithin), .int (nI ktop)])), (ktape, .inl (ky 0, 940, .inl ktapeF)), (kline, .inl (ky 0, 160, .inl klineF))] sz) := by
  refine Met.ofW (cc := cX12_readPour) (maxL := 2) (ret := (some .boolean)) (by decide) rfl ?_
  intro p e s m args below meth c s₁ B hml hv
  obtain ⟨rfl, hsz, hP, hK, hD0⟩ := hv
  have hx := B.exec
  have hb := B.bytes
  have hr := B.returns
  have hts := atoms_spec (ws := wsX12_readPour) B.pre
  have hown : s.vm.findClass RX12 = some m.cls := findClass_of_methodNamed B.named
  have hlocks := B.notSynchronized
  subst hsz
  have hD := hD0.self (sz := s.heap.size)
  generalize hAe : va_A [(o, .inr (12, [.int kthrown, .ref ktape, .int (nI ktaped), .int (nI ksize), .int (nI klimit), .int (nI kto), .int (nI kfrom), .int kkind, .int knumber, .int ksign, .int kfault, .int kplace, .long kword, .int ktold, .ref know, .ref kread, .ref kkept, .ref ksnaps, .ref kaside, .ref kname, .ref kreadName, .ref kkeptName, .ref kisKept, .ref konces, .int (nI ksnapMany), .int khasCells, .ref kpoured, .ref kfar, .ref ksides, .int (nI ksideMany), .int kwayDays, .int khasWay, .ref klines, .ref kmet, .int (nI kmetMany), .ref ksunk, .ref ktrying, .int (nI ksunkMany), .int ksending, .int kfleets, .ref ktext, .int (nI ktexts), .int kseed, .ref kline, .ref kwritten, .int (nI klineMany), .int khasWritten, .ref knode, .int (nI knodes), .int (nI konesMany), .int (nI kwithin), .int (nI ktop)])), (ktape, .inl (ky 0, 940, .inl ktapeF)), (kline, .inl (ky 0, 160, .inl klineF))] s.heap.size = A at hD ⊢
  have hA : ∀ q : Nat, s.heap.size ≤ q → A q := fun q h => by rw [← hAe]; exact Or.inr h
  have hS : va_S A s.heap s.heap [] := va_S.rf
  have hl := lv_entry ([.ref o, .int (nI aq)]) (n := 2) (Nat.le_of_ble_eq_true rfl)
  rw [lg_entry_eq]
  generalize (lg_sl ([.ref o, .int (nI aq)]) ++ List.replicate (2 - (lg_sl ([.ref o, .int (nI aq)])).length) Slot.unset).toArray = ls at hl ⊢
  have hl : lv_has ls 2 [(0, .ref o), (1, .int (nI aq))] := hl
  refine q_name (fun Q hQ => ?_)
  generalize ([.ref o, .int (nI aq)] : List Value).toArray = args at hts hQ ⊢
  refine lv_aload_n hx hb dX12_readPour_0 rfl (lv_at hl 0 rfl) ?_
  refine lv_iload_n hx hb dX12_readPour_1 rfl (lv_at hl 1 rfl) ?_
  refine lv_iconst (v := nI 1) hx hb dX12_readPour_2 (by decide) ?_
  refine lv_iadd hx hb dX12_readPour_3 ?_
  refine r_ti (nI (aq + 1)) (nI_add _ _) ?_
  refine lv_aload_n hx hb dX12_readPour_4 rfl (lv_at hl 0 rfl) ?_
  refine lv_iconst (v := nI 0) hx hb dX12_readPour_5 (by decide) ?_
  refine lv_iconst (v := nI 5) hx hb dX12_readPour_6 (by decide) ?_
  refine r_call_i (wr := [(kline, .inl (ky 0, 160, .inl klineF))]) (va_runV (As := [.int (nI 0), .int (nI 5)]) (rest := [.int (nI (aq + 1)), .ref o]) ⟨hx, hb, hml, hown, hts⟩ (c_x_readNumberP l dC dI ky s.heap.size o kthrown ktape ktaped ksize klimit kto kfrom kkind knumber ksign kfault kplace kword ktold know kread kkept ksnaps kaside kname kreadName kkeptName kisKept konces ksnapMany khasCells kpoured kfar ksides ksideMany kwayDays khasWay klines kmet kmetMany ksunk ktrying ksunkMany ksending kfleets ktext ktexts kseed kline kwritten klineMany khasWritten knode knodes konesMany kwithin ktop ktapeF (nI 0) (nI 5) iv_ko_0 iv_ko_1 iv_ko_2 iv_ko_3 iv_ko_4 iv_ko_5 iv_ko_6 iv_ko_7 iv_ko_8 iv_ko_9 iv_ko_10 iv_ko_11 iv_ko_12 iv_ko_13 iv_ko_14) (cwV 2 hts gX12_readPour_X12_readNumber rfl rfl rfl (by decide +kernel) ⟨(Nat.le_of_ble_eq_true rfl), (Nat.le_of_ble_eq_true rfl)⟩) (pre_UV hK hP hD [0, 1] (by decide) rfl (ci := 12) (q0 := 0) rfl rfl) rfl rfl hl.1 rfl (lv_room (Nat.le_of_ble_eq_true rfl)) dX12_readPour_7 ⟨(Nat.le_of_ble_eq_true rfl), (Nat.le_of_ble_eq_true rfl)⟩) hP hD hS hA [0, 1] [2] rfl rfl (by decide) (by decide) (fun r3 u1 H locs p2 hP hD hS => ?_)
  obtain ⟨ktoG_4, kfromG_5, kkindG_6, knumberG_7, ksignG_8, kfaultG_9, kplaceG_10, kwordG_11, ktoldG_12⟩ := u1
  try dsimp only at p2
  obtain ⟨p13, p14, p15⟩ := p2
  refine W.widen (k := 0) (n := 0) (Nat.le_of_ble_eq_true rfl) (Nat.le_of_ble_eq_true rfl) ?_
  have hP : va_P (dC, dI) vwCl [(kline, .inl (ky 0, 160, .inl klineF)), (o, .inr (12, [.int kthrown, .ref ktape, .int (nI ktaped), .int (nI ksize), .int (nI klimit), .int (nI ktoG_4), .int (nI kfromG_5), .int kkindG_6, .int knumberG_7, .int ksignG_8, .int kfaultG_9, .int kplaceG_10, .long kwordG_11, .int ktoldG_12, .ref know, .ref kread, .ref kkept, .ref ksnaps, .ref kaside, .ref kname, .ref kreadName, .ref kkeptName, .ref kisKept, .ref konces, .int (nI ksnapMany), .int khasCells, .ref kpoured, .ref kfar, .ref ksides, .int (nI ksideMany), .int kwayDays, .int khasWay, .ref klines, .ref kmet, .int (nI kmetMany), .ref ksunk, .ref ktrying, .int (nI ksunkMany), .int ksending, .int kfleets, .ref ktext, .int (nI ktexts), .int kseed, .ref kline, .ref kwritten, .int (nI klineMany), .int khasWritten, .ref knode, .int (nI knodes), .int (nI konesMany), .int (nI kwithin), .int (nI ktop)])), (ktape, .inl (ky 0, 940, .inl ktapeF))] H := hP
  have hD : va_D A [(kline, .inl (ky 0, 160, .inl klineF)), (o, .inr (12, [.int kthrown, .ref ktape, .int (nI ktaped), .int (nI ksize), .int (nI klimit), .int (nI ktoG_4), .int (nI kfromG_5), .int kkindG_6, .int knumberG_7, .int ksignG_8, .int kfaultG_9, .int kplaceG_10, .long kwordG_11, .int ktoldG_12, .ref know, .ref kread, .ref kkept, .ref ksnaps, .ref kaside, .ref kname, .ref kreadName, .ref kkeptName, .ref kisKept, .ref konces, .int (nI ksnapMany), .int khasCells, .ref kpoured, .ref kfar, .ref ksides, .int (nI ksideMany), .int kwayDays, .int khasWay, .ref klines, .ref kmet, .int (nI kmetMany), .ref ksunk, .ref ktrying, .int (nI ksunkMany), .int ksending, .int kfleets, .ref ktext, .int (nI ktexts), .int kseed, .ref kline, .ref kwritten, .int (nI klineMany), .int khasWritten, .ref knode, .int (nI knodes), .int (nI konesMany), .int (nI kwithin), .int (nI ktop)])), (ktape, .inl (ky 0, 940, .inl ktapeF))] := hD
  rcases p13 with ⟨rfl, t16, t17, t18, t19, t20⟩ | ⟨rfl, t21⟩
  · refine r_call_i (wr := [(ktape, .inl (ky 0, 940, .inl ktapeF))]) (va_runV (As := [.int (nI (aq + 1)), .int (nI 1)]) (rest := []) ⟨hx, hb, hml, hown, hts⟩ (c_x_keep1 l dC dI ky H.size o kthrown ktape ktaped ksize klimit ktoG_4 kfromG_5 kkindG_6 knumberG_7 ksignG_8 kfaultG_9 kplaceG_10 kwordG_11 ktoldG_12 know kread kkept ksnaps kaside kname kreadName kkeptName kisKept konces ksnapMany khasCells kpoured kfar ksides ksideMany kwayDays khasWay klines kmet kmetMany ksunk ktrying ksunkMany ksending kfleets ktext ktexts kseed kline kwritten klineMany khasWritten knode knodes konesMany kwithin ktop klineF (aq + 1) iv_ko_0 iv_ko_1 iv_ko_2 p14 p15 iv_ko_5 iv_ko_6 iv_ko_7 iv_ko_8 iv_ko_9 iv_ko_10 iv_ko_11 iv_ko_12 iv_ko_13 iv_ko_14 (lf_x_readPour_1 aq ha)) (cwV 2 hts gX12_readPour_X12_keep rfl rfl rfl (by decide +kernel) ⟨(Nat.le_of_ble_eq_true rfl), (Nat.le_of_ble_eq_true rfl)⟩) (pre_UV hK hP hD [1, 0] (by decide) rfl (ci := 12) (q0 := 1) rfl rfl) rfl rfl hl.1 rfl (lv_room (Nat.le_of_ble_eq_true rfl)) dX12_readPour_10 ⟨(Nat.le_of_ble_eq_true rfl), (Nat.le_of_ble_eq_true rfl)⟩) hP hD hS hA [1, 0] [2] rfl rfl (by decide) (by decide) (fun r24 u22 H locs p23 hP hD hS => ?_)
    obtain ⟨klineG_25, rfl⟩ : ∃ z, z = u22 := ⟨_, rfl⟩
    try dsimp only at p23
    obtain ⟨p26, p27⟩ := p23
    refine W.widen (k := 0) (n := 0) (Nat.le_of_ble_eq_true rfl) (Nat.le_of_ble_eq_true rfl) ?_
    have hP : va_P (dC, dI) vwCl [(ktape, .inl (ky 0, 940, .inl ktapeF)), (o, .inr (12, [.int kthrown, .ref ktape, .int (nI ktaped), .int (nI ksize), .int (nI klimit), .int (nI ktoG_4), .int (nI kfromG_5), .int kkindG_6, .int knumberG_7, .int ksignG_8, .int kfaultG_9, .int kplaceG_10, .long kwordG_11, .int ktoldG_12, .ref know, .ref kread, .ref kkept, .ref ksnaps, .ref kaside, .ref kname, .ref kreadName, .ref kkeptName, .ref kisKept, .ref konces, .int (nI ksnapMany), .int khasCells, .ref kpoured, .ref kfar, .ref ksides, .int (nI ksideMany), .int kwayDays, .int khasWay, .ref klines, .ref kmet, .int (nI kmetMany), .ref ksunk, .ref ktrying, .int (nI ksunkMany), .int ksending, .int kfleets, .ref ktext, .int (nI ktexts), .int kseed, .ref kline, .ref kwritten, .int (nI klineMany), .int khasWritten, .ref knode, .int (nI knodes), .int (nI konesMany), .int (nI kwithin), .int (nI ktop)])), (kline, .inl (ky 0, 160, .inl klineG_25))] H := hP
    have hD : va_D A [(ktape, .inl (ky 0, 940, .inl ktapeF)), (o, .inr (12, [.int kthrown, .ref ktape, .int (nI ktaped), .int (nI ksize), .int (nI klimit), .int (nI ktoG_4), .int (nI kfromG_5), .int kkindG_6, .int knumberG_7, .int ksignG_8, .int kfaultG_9, .int kplaceG_10, .long kwordG_11, .int ktoldG_12, .ref know, .ref kread, .ref kkept, .ref ksnaps, .ref kaside, .ref kname, .ref kreadName, .ref kkeptName, .ref kisKept, .ref konces, .int (nI ksnapMany), .int khasCells, .ref kpoured, .ref kfar, .ref ksides, .int (nI ksideMany), .int kwayDays, .int khasWay, .ref klines, .ref kmet, .int (nI kmetMany), .ref ksunk, .ref ktrying, .int (nI ksunkMany), .int ksending, .int kfleets, .ref ktext, .int (nI ktexts), .int kseed, .ref kline, .ref kwritten, .int (nI klineMany), .int khasWritten, .ref knode, .int (nI knodes), .int (nI konesMany), .int (nI kwithin), .int (nI ktop)])), (kline, .inl (ky 0, 160, .inl klineG_25))] := hD
    subst p26
    refine lv_if_eq (tgt := 53) hx hb dX12_readPour_13 (by decide) (fun c28 => absurd c28 (by decide)) (fun c28 => ?_)
    refine lv_aload_n hx hb dX12_readPour_16 rfl (lv_at hl 0 rfl) ?_
    refine lv_iload_n hx hb dX12_readPour_17 rfl (lv_at hl 1 rfl) ?_
    refine lv_iconst (v := nI 2) hx hb dX12_readPour_18 (by decide) ?_
    refine lv_iadd hx hb dX12_readPour_19 ?_
    refine r_ti (nI (aq + 2)) (nI_add _ _) ?_
    refine lv_aload_n hx hb dX12_readPour_20 rfl (lv_at hl 0 rfl) ?_
    refine lv_iconst (v := nI 0) hx hb dX12_readPour_21 (by decide) ?_
    refine lv_iconst (v := nI 5) hx hb dX12_readPour_22 (by decide) ?_
    refine r_call_i (wr := [(kline, .inl (ky 0, 160, .inl klineG_25))]) (va_runV (As := [.int (nI 0), .int (nI 5)]) (rest := [.int (nI (aq + 2)), .ref o]) ⟨hx, hb, hml, hown, hts⟩ (c_x_readNumberP l dC dI ky H.size o kthrown ktape ktaped ksize klimit ktoG_4 kfromG_5 kkindG_6 knumberG_7 ksignG_8 kfaultG_9 kplaceG_10 kwordG_11 ktoldG_12 know kread kkept ksnaps kaside kname kreadName kkeptName kisKept konces ksnapMany khasCells kpoured kfar ksides ksideMany kwayDays khasWay klines kmet kmetMany ksunk ktrying ksunkMany ksending kfleets ktext ktexts kseed kline kwritten klineMany khasWritten knode knodes konesMany kwithin ktop ktapeF (nI 0) (nI 5) iv_ko_0 iv_ko_1 iv_ko_2 p14 p15 iv_ko_5 iv_ko_6 iv_ko_7 iv_ko_8 iv_ko_9 iv_ko_10 iv_ko_11 iv_ko_12 iv_ko_13 iv_ko_14) (cwV 2 hts gX12_readPour_X12_readNumber rfl rfl rfl (by decide +kernel) ⟨(Nat.le_of_ble_eq_true rfl), (Nat.le_of_ble_eq_true rfl)⟩) (pre_UV hK hP hD [1, 0] (by decide) rfl (ci := 12) (q0 := 1) rfl rfl) rfl rfl hl.1 rfl (lv_room (Nat.le_of_ble_eq_true rfl)) dX12_readPour_23 ⟨(Nat.le_of_ble_eq_true rfl), (Nat.le_of_ble_eq_true rfl)⟩) hP hD hS hA [1, 0] [2] rfl rfl (by decide) (by decide) (fun r31 u29 H locs p30 hP hD hS => ?_)
    obtain ⟨ktoG_32, kfromG_33, kkindG_34, knumberG_35, ksignG_36, kfaultG_37, kplaceG_38, kwordG_39, ktoldG_40⟩ := u29
    try dsimp only at p30
    obtain ⟨p41, p42, p43⟩ := p30
    refine W.widen (k := 0) (n := 0) (Nat.le_of_ble_eq_true rfl) (Nat.le_of_ble_eq_true rfl) ?_
    have hP : va_P (dC, dI) vwCl [(kline, .inl (ky 0, 160, .inl klineG_25)), (o, .inr (12, [.int kthrown, .ref ktape, .int (nI ktaped), .int (nI ksize), .int (nI klimit), .int (nI ktoG_32), .int (nI kfromG_33), .int kkindG_34, .int knumberG_35, .int ksignG_36, .int kfaultG_37, .int kplaceG_38, .long kwordG_39, .int ktoldG_40, .ref know, .ref kread, .ref kkept, .ref ksnaps, .ref kaside, .ref kname, .ref kreadName, .ref kkeptName, .ref kisKept, .ref konces, .int (nI ksnapMany), .int khasCells, .ref kpoured, .ref kfar, .ref ksides, .int (nI ksideMany), .int kwayDays, .int khasWay, .ref klines, .ref kmet, .int (nI kmetMany), .ref ksunk, .ref ktrying, .int (nI ksunkMany), .int ksending, .int kfleets, .ref ktext, .int (nI ktexts), .int kseed, .ref kline, .ref kwritten, .int (nI klineMany), .int khasWritten, .ref knode, .int (nI knodes), .int (nI konesMany), .int (nI kwithin), .int (nI ktop)])), (ktape, .inl (ky 0, 940, .inl ktapeF))] H := hP
    have hD : va_D A [(kline, .inl (ky 0, 160, .inl klineG_25)), (o, .inr (12, [.int kthrown, .ref ktape, .int (nI ktaped), .int (nI ksize), .int (nI klimit), .int (nI ktoG_32), .int (nI kfromG_33), .int kkindG_34, .int knumberG_35, .int ksignG_36, .int kfaultG_37, .int kplaceG_38, .long kwordG_39, .int ktoldG_40, .ref know, .ref kread, .ref kkept, .ref ksnaps, .ref kaside, .ref kname, .ref kreadName, .ref kkeptName, .ref kisKept, .ref konces, .int (nI ksnapMany), .int khasCells, .ref kpoured, .ref kfar, .ref ksides, .int (nI ksideMany), .int kwayDays, .int khasWay, .ref klines, .ref kmet, .int (nI kmetMany), .ref ksunk, .ref ktrying, .int (nI ksunkMany), .int ksending, .int kfleets, .ref ktext, .int (nI ktexts), .int kseed, .ref kline, .ref kwritten, .int (nI klineMany), .int khasWritten, .ref knode, .int (nI knodes), .int (nI konesMany), .int (nI kwithin), .int (nI ktop)])), (ktape, .inl (ky 0, 940, .inl ktapeF))] := hD
    rcases p41 with ⟨rfl, t44, t45, t46, t47, t48⟩ | ⟨rfl, t49⟩
    · refine r_call_i (wr := [(ktape, .inl (ky 0, 940, .inl ktapeF))]) (va_runV (As := [.int (nI (aq + 2)), .int (nI 1)]) (rest := []) ⟨hx, hb, hml, hown, hts⟩ (c_x_keep1 l dC dI ky H.size o kthrown ktape ktaped ksize klimit ktoG_32 kfromG_33 kkindG_34 knumberG_35 ksignG_36 kfaultG_37 kplaceG_38 kwordG_39 ktoldG_40 know kread kkept ksnaps kaside kname kreadName kkeptName kisKept konces ksnapMany khasCells kpoured kfar ksides ksideMany kwayDays khasWay klines kmet kmetMany ksunk ktrying ksunkMany ksending kfleets ktext ktexts kseed kline kwritten klineMany khasWritten knode knodes konesMany kwithin ktop klineG_25 (aq + 2) iv_ko_0 iv_ko_1 iv_ko_2 p42 p43 iv_ko_5 iv_ko_6 iv_ko_7 iv_ko_8 iv_ko_9 iv_ko_10 iv_ko_11 iv_ko_12 iv_ko_13 iv_ko_14 (lf_x_readPour_2 klineF aq ktoldG_12 klineG_25 ha t16 t17 p27)) (cwV 2 hts gX12_readPour_X12_keep rfl rfl rfl (by decide +kernel) ⟨(Nat.le_of_ble_eq_true rfl), (Nat.le_of_ble_eq_true rfl)⟩) (pre_UV hK hP hD [1, 0] (by decide) rfl (ci := 12) (q0 := 1) rfl rfl) rfl rfl hl.1 rfl (lv_room (Nat.le_of_ble_eq_true rfl)) dX12_readPour_26 ⟨(Nat.le_of_ble_eq_true rfl), (Nat.le_of_ble_eq_true rfl)⟩) hP hD hS hA [1, 0] [2] rfl rfl (by decide) (by decide) (fun r52 u50 H locs p51 hP hD hS => ?_)
      obtain ⟨klineG_53, rfl⟩ : ∃ z, z = u50 := ⟨_, rfl⟩
      try dsimp only at p51
      obtain ⟨p54, p55⟩ := p51
      refine W.widen (k := 0) (n := 0) (Nat.le_of_ble_eq_true rfl) (Nat.le_of_ble_eq_true rfl) ?_
      have hP : va_P (dC, dI) vwCl [(ktape, .inl (ky 0, 940, .inl ktapeF)), (o, .inr (12, [.int kthrown, .ref ktape, .int (nI ktaped), .int (nI ksize), .int (nI klimit), .int (nI ktoG_32), .int (nI kfromG_33), .int kkindG_34, .int knumberG_35, .int ksignG_36, .int kfaultG_37, .int kplaceG_38, .long kwordG_39, .int ktoldG_40, .ref know, .ref kread, .ref kkept, .ref ksnaps, .ref kaside, .ref kname, .ref kreadName, .ref kkeptName, .ref kisKept, .ref konces, .int (nI ksnapMany), .int khasCells, .ref kpoured, .ref kfar, .ref ksides, .int (nI ksideMany), .int kwayDays, .int khasWay, .ref klines, .ref kmet, .int (nI kmetMany), .ref ksunk, .ref ktrying, .int (nI ksunkMany), .int ksending, .int kfleets, .ref ktext, .int (nI ktexts), .int kseed, .ref kline, .ref kwritten, .int (nI klineMany), .int khasWritten, .ref knode, .int (nI knodes), .int (nI konesMany), .int (nI kwithin), .int (nI ktop)])), (kline, .inl (ky 0, 160, .inl klineG_53))] H := hP
      have hD : va_D A [(ktape, .inl (ky 0, 940, .inl ktapeF)), (o, .inr (12, [.int kthrown, .ref ktape, .int (nI ktaped), .int (nI ksize), .int (nI klimit), .int (nI ktoG_32), .int (nI kfromG_33), .int kkindG_34, .int knumberG_35, .int ksignG_36, .int kfaultG_37, .int kplaceG_38, .long kwordG_39, .int ktoldG_40, .ref know, .ref kread, .ref kkept, .ref ksnaps, .ref kaside, .ref kname, .ref kreadName, .ref kkeptName, .ref kisKept, .ref konces, .int (nI ksnapMany), .int khasCells, .ref kpoured, .ref kfar, .ref ksides, .int (nI ksideMany), .int kwayDays, .int khasWay, .ref klines, .ref kmet, .int (nI kmetMany), .ref ksunk, .ref ktrying, .int (nI ksunkMany), .int ksending, .int kfleets, .ref ktext, .int (nI ktexts), .int kseed, .ref kline, .ref kwritten, .int (nI klineMany), .int khasWritten, .ref knode, .int (nI knodes), .int (nI konesMany), .int (nI kwithin), .int (nI ktop)])), (kline, .inl (ky 0, 160, .inl klineG_53))] := hD
      subst p54
      refine lv_if_eq (tgt := 53) hx hb dX12_readPour_29 (by decide) (fun c56 => absurd c56 (by decide)) (fun c56 => ?_)
      refine lv_aload_n hx hb dX12_readPour_32 rfl (lv_at hl 0 rfl) ?_
      refine lv_iload_n hx hb dX12_readPour_33 rfl (lv_at hl 1 rfl) ?_
      refine lv_iconst (v := nI 3) hx hb dX12_readPour_34 (by decide) ?_
      refine lv_iadd hx hb dX12_readPour_35 ?_
      refine r_ti (nI (aq + 3)) (nI_add _ _) ?_
      refine lv_aload_n hx hb dX12_readPour_36 rfl (lv_at hl 0 rfl) ?_
      refine lv_iconst (v := nI 1) hx hb dX12_readPour_37 (by decide) ?_
      refine lv_bipush (v := nI 9) hx hb dX12_readPour_38 (by decide) ?_
      refine r_call_i (wr := [(kline, .inl (ky 0, 160, .inl klineG_53))]) (va_runV (As := [.int (nI 1), .int (nI 9)]) (rest := [.int (nI (aq + 3)), .ref o]) ⟨hx, hb, hml, hown, hts⟩ (c_x_readNumberP l dC dI ky H.size o kthrown ktape ktaped ksize klimit ktoG_32 kfromG_33 kkindG_34 knumberG_35 ksignG_36 kfaultG_37 kplaceG_38 kwordG_39 ktoldG_40 know kread kkept ksnaps kaside kname kreadName kkeptName kisKept konces ksnapMany khasCells kpoured kfar ksides ksideMany kwayDays khasWay klines kmet kmetMany ksunk ktrying ksunkMany ksending kfleets ktext ktexts kseed kline kwritten klineMany khasWritten knode knodes konesMany kwithin ktop ktapeF (nI 1) (nI 9) iv_ko_0 iv_ko_1 iv_ko_2 p42 p43 iv_ko_5 iv_ko_6 iv_ko_7 iv_ko_8 iv_ko_9 iv_ko_10 iv_ko_11 iv_ko_12 iv_ko_13 iv_ko_14) (cwV 2 hts gX12_readPour_X12_readNumber rfl rfl rfl (by decide +kernel) ⟨(Nat.le_of_ble_eq_true rfl), (Nat.le_of_ble_eq_true rfl)⟩) (pre_UV hK hP hD [1, 0] (by decide) rfl (ci := 12) (q0 := 1) rfl rfl) rfl rfl hl.1 rfl (lv_room (Nat.le_of_ble_eq_true rfl)) dX12_readPour_40 ⟨(Nat.le_of_ble_eq_true rfl), (Nat.le_of_ble_eq_true rfl)⟩) hP hD hS hA [1, 0] [2] rfl rfl (by decide) (by decide) (fun r59 u57 H locs p58 hP hD hS => ?_)
      obtain ⟨ktoG_60, kfromG_61, kkindG_62, knumberG_63, ksignG_64, kfaultG_65, kplaceG_66, kwordG_67, ktoldG_68⟩ := u57
      try dsimp only at p58
      obtain ⟨p69, p70, p71⟩ := p58
      refine W.widen (k := 0) (n := 0) (Nat.le_of_ble_eq_true rfl) (Nat.le_of_ble_eq_true rfl) ?_
      have hP : va_P (dC, dI) vwCl [(kline, .inl (ky 0, 160, .inl klineG_53)), (o, .inr (12, [.int kthrown, .ref ktape, .int (nI ktaped), .int (nI ksize), .int (nI klimit), .int (nI ktoG_60), .int (nI kfromG_61), .int kkindG_62, .int knumberG_63, .int ksignG_64, .int kfaultG_65, .int kplaceG_66, .long kwordG_67, .int ktoldG_68, .ref know, .ref kread, .ref kkept, .ref ksnaps, .ref kaside, .ref kname, .ref kreadName, .ref kkeptName, .ref kisKept, .ref konces, .int (nI ksnapMany), .int khasCells, .ref kpoured, .ref kfar, .ref ksides, .int (nI ksideMany), .int kwayDays, .int khasWay, .ref klines, .ref kmet, .int (nI kmetMany), .ref ksunk, .ref ktrying, .int (nI ksunkMany), .int ksending, .int kfleets, .ref ktext, .int (nI ktexts), .int kseed, .ref kline, .ref kwritten, .int (nI klineMany), .int khasWritten, .ref knode, .int (nI knodes), .int (nI konesMany), .int (nI kwithin), .int (nI ktop)])), (ktape, .inl (ky 0, 940, .inl ktapeF))] H := hP
      have hD : va_D A [(kline, .inl (ky 0, 160, .inl klineG_53)), (o, .inr (12, [.int kthrown, .ref ktape, .int (nI ktaped), .int (nI ksize), .int (nI klimit), .int (nI ktoG_60), .int (nI kfromG_61), .int kkindG_62, .int knumberG_63, .int ksignG_64, .int kfaultG_65, .int kplaceG_66, .long kwordG_67, .int ktoldG_68, .ref know, .ref kread, .ref kkept, .ref ksnaps, .ref kaside, .ref kname, .ref kreadName, .ref kkeptName, .ref kisKept, .ref konces, .int (nI ksnapMany), .int khasCells, .ref kpoured, .ref kfar, .ref ksides, .int (nI ksideMany), .int kwayDays, .int khasWay, .ref klines, .ref kmet, .int (nI kmetMany), .ref ksunk, .ref ktrying, .int (nI ksunkMany), .int ksending, .int kfleets, .ref ktext, .int (nI ktexts), .int kseed, .ref kline, .ref kwritten, .int (nI klineMany), .int khasWritten, .ref knode, .int (nI knodes), .int (nI konesMany), .int (nI kwithin), .int (nI ktop)])), (ktape, .inl (ky 0, 940, .inl ktapeF))] := hD
      rcases p69 with ⟨rfl, t72, t73, t74, t75, t76⟩ | ⟨rfl, t77⟩
      · refine r_call_i (wr := [(ktape, .inl (ky 0, 940, .inl ktapeF))]) (va_runV (As := [.int (nI (aq + 3)), .int (nI 1)]) (rest := []) ⟨hx, hb, hml, hown, hts⟩ (c_x_keep1 l dC dI ky H.size o kthrown ktape ktaped ksize klimit ktoG_60 kfromG_61 kkindG_62 knumberG_63 ksignG_64 kfaultG_65 kplaceG_66 kwordG_67 ktoldG_68 know kread kkept ksnaps kaside kname kreadName kkeptName kisKept konces ksnapMany khasCells kpoured kfar ksides ksideMany kwayDays khasWay klines kmet kmetMany ksunk ktrying ksunkMany ksending kfleets ktext ktexts kseed kline kwritten klineMany khasWritten knode knodes konesMany kwithin ktop klineG_53 (aq + 3) iv_ko_0 iv_ko_1 iv_ko_2 p70 p71 iv_ko_5 iv_ko_6 iv_ko_7 iv_ko_8 iv_ko_9 iv_ko_10 iv_ko_11 iv_ko_12 iv_ko_13 iv_ko_14 (lf_x_readPour_3 klineF aq ktoldG_12 klineG_25 ktoldG_40 klineG_53 ha t16 t17 p27 t44 t45 p55)) (cwV 2 hts gX12_readPour_X12_keep rfl rfl rfl (by decide +kernel) ⟨(Nat.le_of_ble_eq_true rfl), (Nat.le_of_ble_eq_true rfl)⟩) (pre_UV hK hP hD [1, 0] (by decide) rfl (ci := 12) (q0 := 1) rfl rfl) rfl rfl hl.1 rfl (lv_room (Nat.le_of_ble_eq_true rfl)) dX12_readPour_43 ⟨(Nat.le_of_ble_eq_true rfl), (Nat.le_of_ble_eq_true rfl)⟩) hP hD hS hA [1, 0] [2] rfl rfl (by decide) (by decide) (fun r80 u78 H locs p79 hP hD hS => ?_)
        obtain ⟨klineG_81, rfl⟩ : ∃ z, z = u78 := ⟨_, rfl⟩
        try dsimp only at p79
        obtain ⟨p82, p83⟩ := p79
        refine W.widen (k := 0) (n := 0) (Nat.le_of_ble_eq_true rfl) (Nat.le_of_ble_eq_true rfl) ?_
        have hP : va_P (dC, dI) vwCl [(ktape, .inl (ky 0, 940, .inl ktapeF)), (o, .inr (12, [.int kthrown, .ref ktape, .int (nI ktaped), .int (nI ksize), .int (nI klimit), .int (nI ktoG_60), .int (nI kfromG_61), .int kkindG_62, .int knumberG_63, .int ksignG_64, .int kfaultG_65, .int kplaceG_66, .long kwordG_67, .int ktoldG_68, .ref know, .ref kread, .ref kkept, .ref ksnaps, .ref kaside, .ref kname, .ref kreadName, .ref kkeptName, .ref kisKept, .ref konces, .int (nI ksnapMany), .int khasCells, .ref kpoured, .ref kfar, .ref ksides, .int (nI ksideMany), .int kwayDays, .int khasWay, .ref klines, .ref kmet, .int (nI kmetMany), .ref ksunk, .ref ktrying, .int (nI ksunkMany), .int ksending, .int kfleets, .ref ktext, .int (nI ktexts), .int kseed, .ref kline, .ref kwritten, .int (nI klineMany), .int khasWritten, .ref knode, .int (nI knodes), .int (nI konesMany), .int (nI kwithin), .int (nI ktop)])), (kline, .inl (ky 0, 160, .inl klineG_81))] H := hP
        have hD : va_D A [(ktape, .inl (ky 0, 940, .inl ktapeF)), (o, .inr (12, [.int kthrown, .ref ktape, .int (nI ktaped), .int (nI ksize), .int (nI klimit), .int (nI ktoG_60), .int (nI kfromG_61), .int kkindG_62, .int knumberG_63, .int ksignG_64, .int kfaultG_65, .int kplaceG_66, .long kwordG_67, .int ktoldG_68, .ref know, .ref kread, .ref kkept, .ref ksnaps, .ref kaside, .ref kname, .ref kreadName, .ref kkeptName, .ref kisKept, .ref konces, .int (nI ksnapMany), .int khasCells, .ref kpoured, .ref kfar, .ref ksides, .int (nI ksideMany), .int kwayDays, .int khasWay, .ref klines, .ref kmet, .int (nI kmetMany), .ref ksunk, .ref ktrying, .int (nI ksunkMany), .int ksending, .int kfleets, .ref ktext, .int (nI ktexts), .int kseed, .ref kline, .ref kwritten, .int (nI klineMany), .int khasWritten, .ref knode, .int (nI knodes), .int (nI konesMany), .int (nI kwithin), .int (nI ktop)])), (kline, .inl (ky 0, 160, .inl klineG_81))] := hD
        subst p82
        refine lv_if_eq (tgt := 53) hx hb dX12_readPour_46 (by decide) (fun c84 => absurd c84 (by decide)) (fun c84 => ?_)
        refine lv_iconst (v := nI 1) hx hb dX12_readPour_49 (by decide) ?_
        refine lv_goto (tgt := 54) hx hb dX12_readPour_50 (by decide) ?_
        rw [hQ]
        have hP9 := hP.sub (ws' := [(o, .inr (12, [.int kthrown, .ref ktape, .int (nI ktaped), .int (nI ksize), .int (nI klimit), .int (nI ktoG_60), .int (nI kfromG_61), .int kkindG_62, .int knumberG_63, .int ksignG_64, .int kfaultG_65, .int kplaceG_66, .long kwordG_67, .int ktoldG_68, .ref know, .ref kread, .ref kkept, .ref ksnaps, .ref kaside, .ref kname, .ref kreadName, .ref kkeptName, .ref kisKept, .ref konces, .int (nI ksnapMany), .int khasCells, .ref kpoured, .ref kfar, .ref ksides, .int (nI ksideMany), .int kwayDays, .int khasWay, .ref klines, .ref kmet, .int (nI kmetMany), .ref ksunk, .ref ktrying, .int (nI ksunkMany), .int ksending, .int kfleets, .ref ktext, .int (nI ktexts), .int kseed, .ref kline, .ref kwritten, .int (nI klineMany), .int khasWritten, .ref knode, .int (nI knodes), .int (nI konesMany), .int (nI kwithin), .int (nI ktop)])), (ktape, .inl (ky 0, 940, .inl ktapeF)), (kline, .inl (ky 0, 160, .inl klineG_81))]) [1, 0, 2] rfl
        have hD9 := hD.sub (ws' := [(o, .inr (12, [.int kthrown, .ref ktape, .int (nI ktaped), .int (nI ksize), .int (nI klimit), .int (nI ktoG_60), .int (nI kfromG_61), .int kkindG_62, .int knumberG_63, .int ksignG_64, .int kfaultG_65, .int kplaceG_66, .long kwordG_67, .int ktoldG_68, .ref know, .ref kread, .ref kkept, .ref ksnaps, .ref kaside, .ref kname, .ref kreadName, .ref kkeptName, .ref kisKept, .ref konces, .int (nI ksnapMany), .int khasCells, .ref kpoured, .ref kfar, .ref ksides, .int (nI ksideMany), .int kwayDays, .int khasWay, .ref klines, .ref kmet, .int (nI kmetMany), .ref ksunk, .ref ktrying, .int (nI ksunkMany), .int ksending, .int kfleets, .ref ktext, .int (nI ktexts), .int kseed, .ref kline, .ref kwritten, .int (nI klineMany), .int khasWritten, .ref knode, .int (nI knodes), .int (nI konesMany), .int (nI kwithin), .int (nI ktop)])), (ktape, .inl (ky 0, 940, .inl ktapeF)), (kline, .inl (ky 0, 160, .inl klineG_81))]) [1, 0, 2] (by decide) rfl
        exact W.zret (v := nI 1) hx hb hr (by decide) (fun t9 ht9 hW9 => ⟨⟨nI 1, (ktoG_60, kfromG_61, kkindG_62, knumberG_63, ksignG_64, kfaultG_65, kplaceG_66, kwordG_67, ktoldG_68, klineG_81), rfl, ⟨(lf_x_readPour_4 klineF aq ktoldG_12 klineG_25 ktoldG_40 klineG_53 ktoldG_68 klineG_81 ha t16 t17 p27 t44 t45 p55 t72 t73 p83), p70, p71⟩, by rw [ht9]; exact hP9, va_K.moved hW9.alike hK, hD9⟩, hS.F ht9⟩) hS.2.2 dX12_readPour_54
      · refine vp_callSi (W.runV (As := [.int (nI (aq + 3)), .int (nI 0)]) (rest := []) ⟨hx, hb, hml, hown, hts⟩ (c_x_keep0 l dC dI ky o kthrown ktape ktaped ksize klimit ktoG_60 kfromG_61 kkindG_62 knumberG_63 ksignG_64 kfaultG_65 kplaceG_66 kwordG_67 ktoldG_68 know kread kkept ksnaps kaside kname kreadName kkeptName kisKept konces ksnapMany khasCells kpoured kfar ksides ksideMany kwayDays khasWay klines kmet kmetMany ksunk ktrying ksunkMany ksending kfleets ktext ktexts kseed kline kwritten klineMany khasWritten knode knodes konesMany kwithin ktop (nI (aq + 3)) iv_ko_0 iv_ko_1 iv_ko_2 p70 p71 iv_ko_5 iv_ko_6 iv_ko_7 iv_ko_8 iv_ko_9 iv_ko_10 iv_ko_11 iv_ko_12 iv_ko_13 iv_ko_14) (cwV 2 hts gX12_readPour_X12_keep rfl rfl rfl (by decide +kernel) ⟨(Nat.le_of_ble_eq_true rfl), (Nat.le_of_ble_eq_true rfl)⟩) (pre_PV hK hP [1] rfl (ci := 12) (q0 := 1) rfl rfl) rfl rfl hl.1 rfl (lv_room (Nat.le_of_ble_eq_true rfl)) dX12_readPour_43 ⟨(Nat.le_of_ble_eq_true rfl), (Nat.le_of_ble_eq_true rfl)⟩) (fun r85 p86 => ?_)
        subst p86
        refine lv_if_eq (tgt := 53) hx hb dX12_readPour_46 (by decide) (fun c87 => ?_) (fun c87 => absurd (by decide) c87)
        refine lv_iconst (v := nI 0) hx hb dX12_readPour_53 (by decide) ?_
        rw [hQ]
        have hP9 := hP.sub (ws' := [(o, .inr (12, [.int kthrown, .ref ktape, .int (nI ktaped), .int (nI ksize), .int (nI klimit), .int (nI ktoG_60), .int (nI kfromG_61), .int kkindG_62, .int knumberG_63, .int ksignG_64, .int kfaultG_65, .int kplaceG_66, .long kwordG_67, .int ktoldG_68, .ref know, .ref kread, .ref kkept, .ref ksnaps, .ref kaside, .ref kname, .ref kreadName, .ref kkeptName, .ref kisKept, .ref konces, .int (nI ksnapMany), .int khasCells, .ref kpoured, .ref kfar, .ref ksides, .int (nI ksideMany), .int kwayDays, .int khasWay, .ref klines, .ref kmet, .int (nI kmetMany), .ref ksunk, .ref ktrying, .int (nI ksunkMany), .int ksending, .int kfleets, .ref ktext, .int (nI ktexts), .int kseed, .ref kline, .ref kwritten, .int (nI klineMany), .int khasWritten, .ref knode, .int (nI knodes), .int (nI konesMany), .int (nI kwithin), .int (nI ktop)])), (ktape, .inl (ky 0, 940, .inl ktapeF)), (kline, .inl (ky 0, 160, .inl klineG_53))]) [1, 2, 0] rfl
        have hD9 := hD.sub (ws' := [(o, .inr (12, [.int kthrown, .ref ktape, .int (nI ktaped), .int (nI ksize), .int (nI klimit), .int (nI ktoG_60), .int (nI kfromG_61), .int kkindG_62, .int knumberG_63, .int ksignG_64, .int kfaultG_65, .int kplaceG_66, .long kwordG_67, .int ktoldG_68, .ref know, .ref kread, .ref kkept, .ref ksnaps, .ref kaside, .ref kname, .ref kreadName, .ref kkeptName, .ref kisKept, .ref konces, .int (nI ksnapMany), .int khasCells, .ref kpoured, .ref kfar, .ref ksides, .int (nI ksideMany), .int kwayDays, .int khasWay, .ref klines, .ref kmet, .int (nI kmetMany), .ref ksunk, .ref ktrying, .int (nI ksunkMany), .int ksending, .int kfleets, .ref ktext, .int (nI ktexts), .int kseed, .ref kline, .ref kwritten, .int (nI klineMany), .int khasWritten, .ref knode, .int (nI knodes), .int (nI konesMany), .int (nI kwithin), .int (nI ktop)])), (ktape, .inl (ky 0, 940, .inl ktapeF)), (kline, .inl (ky 0, 160, .inl klineG_53))]) [1, 2, 0] (by decide) rfl
        exact W.zret (v := nI 0) hx hb hr (by decide) (fun t9 ht9 hW9 => ⟨⟨nI 0, (ktoG_60, kfromG_61, kkindG_62, knumberG_63, ksignG_64, kfaultG_65, kplaceG_66, kwordG_67, ktoldG_68, klineG_53), rfl, ⟨(lf_x_readPour_5 klineF aq ktoldG_12 klineG_25 ktoldG_40 klineG_53 ha t16 t17 p27 t44 t45 p55 t77), p70, p71⟩, by rw [ht9]; exact hP9, va_K.moved hW9.alike hK, hD9⟩, hS.F ht9⟩) hS.2.2 dX12_readPour_54
    · refine vp_callSi (W.runV (As := [.int (nI (aq + 2)), .int (nI 0)]) (rest := []) ⟨hx, hb, hml, hown, hts⟩ (c_x_keep0 l dC dI ky o kthrown ktape ktaped ksize klimit ktoG_32 kfromG_33 kkindG_34 knumberG_35 ksignG_36 kfaultG_37 kplaceG_38 kwordG_39 ktoldG_40 know kread kkept ksnaps kaside kname kreadName kkeptName kisKept konces ksnapMany khasCells kpoured kfar ksides ksideMany kwayDays khasWay klines kmet kmetMany ksunk ktrying ksunkMany ksending kfleets ktext ktexts kseed kline kwritten klineMany khasWritten knode knodes konesMany kwithin ktop (nI (aq + 2)) iv_ko_0 iv_ko_1 iv_ko_2 p42 p43 iv_ko_5 iv_ko_6 iv_ko_7 iv_ko_8 iv_ko_9 iv_ko_10 iv_ko_11 iv_ko_12 iv_ko_13 iv_ko_14) (cwV 2 hts gX12_readPour_X12_keep rfl rfl rfl (by decide +kernel) ⟨(Nat.le_of_ble_eq_true rfl), (Nat.le_of_ble_eq_true rfl)⟩) (pre_PV hK hP [1] rfl (ci := 12) (q0 := 1) rfl rfl) rfl rfl hl.1 rfl (lv_room (Nat.le_of_ble_eq_true rfl)) dX12_readPour_26 ⟨(Nat.le_of_ble_eq_true rfl), (Nat.le_of_ble_eq_true rfl)⟩) (fun r88 p89 => ?_)
      subst p89
      refine lv_if_eq (tgt := 53) hx hb dX12_readPour_29 (by decide) (fun c90 => ?_) (fun c90 => absurd (by decide) c90)
      refine lv_iconst (v := nI 0) hx hb dX12_readPour_53 (by decide) ?_
      rw [hQ]
      have hP9 := hP.sub (ws' := [(o, .inr (12, [.int kthrown, .ref ktape, .int (nI ktaped), .int (nI ksize), .int (nI klimit), .int (nI ktoG_32), .int (nI kfromG_33), .int kkindG_34, .int knumberG_35, .int ksignG_36, .int kfaultG_37, .int kplaceG_38, .long kwordG_39, .int ktoldG_40, .ref know, .ref kread, .ref kkept, .ref ksnaps, .ref kaside, .ref kname, .ref kreadName, .ref kkeptName, .ref kisKept, .ref konces, .int (nI ksnapMany), .int khasCells, .ref kpoured, .ref kfar, .ref ksides, .int (nI ksideMany), .int kwayDays, .int khasWay, .ref klines, .ref kmet, .int (nI kmetMany), .ref ksunk, .ref ktrying, .int (nI ksunkMany), .int ksending, .int kfleets, .ref ktext, .int (nI ktexts), .int kseed, .ref kline, .ref kwritten, .int (nI klineMany), .int khasWritten, .ref knode, .int (nI knodes), .int (nI konesMany), .int (nI kwithin), .int (nI ktop)])), (ktape, .inl (ky 0, 940, .inl ktapeF)), (kline, .inl (ky 0, 160, .inl klineG_25))]) [1, 2, 0] rfl
      have hD9 := hD.sub (ws' := [(o, .inr (12, [.int kthrown, .ref ktape, .int (nI ktaped), .int (nI ksize), .int (nI klimit), .int (nI ktoG_32), .int (nI kfromG_33), .int kkindG_34, .int knumberG_35, .int ksignG_36, .int kfaultG_37, .int kplaceG_38, .long kwordG_39, .int ktoldG_40, .ref know, .ref kread, .ref kkept, .ref ksnaps, .ref kaside, .ref kname, .ref kreadName, .ref kkeptName, .ref kisKept, .ref konces, .int (nI ksnapMany), .int khasCells, .ref kpoured, .ref kfar, .ref ksides, .int (nI ksideMany), .int kwayDays, .int khasWay, .ref klines, .ref kmet, .int (nI kmetMany), .ref ksunk, .ref ktrying, .int (nI ksunkMany), .int ksending, .int kfleets, .ref ktext, .int (nI ktexts), .int kseed, .ref kline, .ref kwritten, .int (nI klineMany), .int khasWritten, .ref knode, .int (nI knodes), .int (nI konesMany), .int (nI kwithin), .int (nI ktop)])), (ktape, .inl (ky 0, 940, .inl ktapeF)), (kline, .inl (ky 0, 160, .inl klineG_25))]) [1, 2, 0] (by decide) rfl
      exact W.zret (v := nI 0) hx hb hr (by decide) (fun t9 ht9 hW9 => ⟨⟨nI 0, (ktoG_32, kfromG_33, kkindG_34, knumberG_35, ksignG_36, kfaultG_37, kplaceG_38, kwordG_39, ktoldG_40, klineG_25), rfl, ⟨(lf_x_readPour_6 klineF aq ktoldG_12 klineG_25 ha t16 t17 p27 t49), p42, p43⟩, by rw [ht9]; exact hP9, va_K.moved hW9.alike hK, hD9⟩, hS.F ht9⟩) hS.2.2 dX12_readPour_54
  · refine vp_callSi (W.runV (As := [.int (nI (aq + 1)), .int (nI 0)]) (rest := []) ⟨hx, hb, hml, hown, hts⟩ (c_x_keep0 l dC dI ky o kthrown ktape ktaped ksize klimit ktoG_4 kfromG_5 kkindG_6 knumberG_7 ksignG_8 kfaultG_9 kplaceG_10 kwordG_11 ktoldG_12 know kread kkept ksnaps kaside kname kreadName kkeptName kisKept konces ksnapMany khasCells kpoured kfar ksides ksideMany kwayDays khasWay klines kmet kmetMany ksunk ktrying ksunkMany ksending kfleets ktext ktexts kseed kline kwritten klineMany khasWritten knode knodes konesMany kwithin ktop (nI (aq + 1)) iv_ko_0 iv_ko_1 iv_ko_2 p14 p15 iv_ko_5 iv_ko_6 iv_ko_7 iv_ko_8 iv_ko_9 iv_ko_10 iv_ko_11 iv_ko_12 iv_ko_13 iv_ko_14) (cwV 2 hts gX12_readPour_X12_keep rfl rfl rfl (by decide +kernel) ⟨(Nat.le_of_ble_eq_true rfl), (Nat.le_of_ble_eq_true rfl)⟩) (pre_PV hK hP [1] rfl (ci := 12) (q0 := 1) rfl rfl) rfl rfl hl.1 rfl (lv_room (Nat.le_of_ble_eq_true rfl)) dX12_readPour_10 ⟨(Nat.le_of_ble_eq_true rfl), (Nat.le_of_ble_eq_true rfl)⟩) (fun r91 p92 => ?_)
    subst p92
    refine lv_if_eq (tgt := 53) hx hb dX12_readPour_13 (by decide) (fun c93 => ?_) (fun c93 => absurd (by decide) c93)
    refine lv_iconst (v := nI 0) hx hb dX12_readPour_53 (by decide) ?_
    rw [hQ]
    have hP9 := hP.sub (ws' := [(o, .inr (12, [.int kthrown, .ref ktape, .int (nI ktaped), .int (nI ksize), .int (nI klimit), .int (nI ktoG_4), .int (nI kfromG_5), .int kkindG_6, .int knumberG_7, .int ksignG_8, .int kfaultG_9, .int kplaceG_10, .long kwordG_11, .int ktoldG_12, .ref know, .ref kread, .ref kkept, .ref ksnaps, .ref kaside, .ref kname, .ref kreadName, .ref kkeptName, .ref kisKept, .ref konces, .int (nI ksnapMany), .int khasCells, .ref kpoured, .ref kfar, .ref ksides, .int (nI ksideMany), .int kwayDays, .int khasWay, .ref klines, .ref kmet, .int (nI kmetMany), .ref ksunk, .ref ktrying, .int (nI ksunkMany), .int ksending, .int kfleets, .ref ktext, .int (nI ktexts), .int kseed, .ref kline, .ref kwritten, .int (nI klineMany), .int khasWritten, .ref knode, .int (nI knodes), .int (nI konesMany), .int (nI kwithin), .int (nI ktop)])), (ktape, .inl (ky 0, 940, .inl ktapeF)), (kline, .inl (ky 0, 160, .inl klineF))]) [1, 2, 0] rfl
    have hD9 := hD.sub (ws' := [(o, .inr (12, [.int kthrown, .ref ktape, .int (nI ktaped), .int (nI ksize), .int (nI klimit), .int (nI ktoG_4), .int (nI kfromG_5), .int kkindG_6, .int knumberG_7, .int ksignG_8, .int kfaultG_9, .int kplaceG_10, .long kwordG_11, .int ktoldG_12, .ref know, .ref kread, .ref kkept, .ref ksnaps, .ref kaside, .ref kname, .ref kreadName, .ref kkeptName, .ref kisKept, .ref konces, .int (nI ksnapMany), .int khasCells, .ref kpoured, .ref kfar, .ref ksides, .int (nI ksideMany), .int kwayDays, .int khasWay, .ref klines, .ref kmet, .int (nI kmetMany), .ref ksunk, .ref ktrying, .int (nI ksunkMany), .int ksending, .int kfleets, .ref ktext, .int (nI ktexts), .int kseed, .ref kline, .ref kwritten, .int (nI klineMany), .int khasWritten, .ref knode, .int (nI knodes), .int (nI konesMany), .int (nI kwithin), .int (nI ktop)])), (ktape, .inl (ky 0, 940, .inl ktapeF)), (kline, .inl (ky 0, 160, .inl klineF))]) [1, 2, 0] (by decide) rfl
    exact W.zret (v := nI 0) hx hb hr (by decide) (fun t9 ht9 hW9 => ⟨⟨nI 0, (ktoG_4, kfromG_5, kkindG_6, knumberG_7, ksignG_8, kfaultG_9, kplaceG_10, kwordG_11, ktoldG_12, klineF), rfl, ⟨(lf_x_readPour_7 klineF aq ha t21), p14, p15⟩, by rw [ht9]; exact hP9, va_K.moved hW9.alike hK, hD9⟩, hS.F ht9⟩) hS.2.2 dX12_readPour_54
