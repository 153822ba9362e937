theorem dX12_keep_0 : decode cX12_keep 0 = .ok (.iload_n 2, 1) := by decide +kernel
theorem dX12_keep_1 : decode cX12_keep 1 = .ok (.ifCond .eq 13, 3) := by decide +kernel
theorem dX12_keep_14 : decode cX12_keep 14 = .ok (.iload_n 2, 1) := by decide +kernel
theorem dX12_keep_15 : decode cX12_keep 15 = .ok (.ireturn, 1) := by decide +kernel
theorem dX12_keep_4 : decode cX12_keep 4 = .ok (.aload_n 0, 1) := by decide +kernel
theorem dX12_keep_5 : decode cX12_keep 5 = .ok (.getfield 163, 3) := by decide +kernel
theorem dX12_keep_8 : decode cX12_keep 8 = .ok (.iload_n 1, 1) := by decide +kernel
theorem dX12_keep_9 : decode cX12_keep 9 = .ok (.aload_n 0, 1) := by decide +kernel
theorem dX12_keep_10 : decode cX12_keep 10 = .ok (.getfield 79, 3) := by decide +kernel
theorem dX12_keep_13 : decode cX12_keep 13 = .ok (.iastore, 1) := by decide +kernel
theorem dX12_readOneOf_0 : decode cX12_readOneOf 0 = .ok (.iload_n 1, 1) := by decide +kernel
theorem dX12_readOneOf_1 : decode cX12_readOneOf 1 = .ok (.istore_n 3, 1) := by decide +kernel
theorem dX12_readOneOf_2 : decode cX12_readOneOf 2 = .ok (.iload_n 3, 1) := by decide +kernel
theorem dX12_readOneOf_3 : decode cX12_readOneOf 3 = .ok (.iload_n 2, 1) := by decide +kernel
theorem dX12_readOneOf_4 : decode cX12_readOneOf 4 = .ok (.if_icmp .gt 17, 3) := by decide +kernel
theorem dX12_readOneOf_21 : decode cX12_readOneOf 21 = .ok (.iload_n 3, 1) := by decide +kernel
theorem dX12_readOneOf_22 : decode cX12_readOneOf 22 = .ok (.iload_n 2, 1) := by decide +kernel
theorem dX12_readOneOf_23 : decode cX12_readOneOf 23 = .ok (.if_icmp .le 9, 3) := by decide +kernel
theorem dX12_readOneOf_32 : decode cX12_readOneOf 32 = .ok (.aload_n 0, 1) := by decide +kernel
theorem dX12_readOneOf_33 : decode cX12_readOneOf 33 = .ok (.iload_n 3, 1) := by decide +kernel
theorem dX12_readOneOf_34 : decode cX12_readOneOf 34 = .ok (.iload_n 1, 1) := by decide +kernel
theorem dX12_readOneOf_35 : decode cX12_readOneOf 35 = .ok (.isub, 1) := by decide +kernel
theorem dX12_readOneOf_36 : decode cX12_readOneOf 36 = .ok (.putfield 79, 3) := by decide +kernel
theorem dX12_readOneOf_39 : decode cX12_readOneOf 39 = .ok (.aload_n 0, 1) := by decide +kernel
theorem dX12_readOneOf_40 : decode cX12_readOneOf 40 = .ok (.invokevirtual 82, 3) := by decide +kernel
theorem dX12_readOneOf_43 : decode cX12_readOneOf 43 = .ok (.iconst 1, 1) := by decide +kernel
theorem dX12_readOneOf_44 : decode cX12_readOneOf 44 = .ok (.ireturn, 1) := by decide +kernel
theorem dX12_readOneOf_26 : decode cX12_readOneOf 26 = .ok (.aload_n 0, 1) := by decide +kernel
theorem dX12_readOneOf_27 : decode cX12_readOneOf 27 = .ok (.iconst 1, 1) := by decide +kernel
theorem dX12_readOneOf_28 : decode cX12_readOneOf 28 = .ok (.invokevirtual 72, 3) := by decide +kernel
theorem dX12_readOneOf_31 : decode cX12_readOneOf 31 = .ok (.ireturn, 1) := by decide +kernel
theorem dX12_readOneOf_7 : decode cX12_readOneOf 7 = .ok (.aload_n 0, 1) := by decide +kernel
theorem dX12_readOneOf_8 : decode cX12_readOneOf 8 = .ok (.iload_n 3, 1) := by decide +kernel
theorem dX12_readOneOf_9 : decode cX12_readOneOf 9 = .ok (.invokevirtual 213, 3) := by decide +kernel
theorem dX12_readOneOf_12 : decode cX12_readOneOf 12 = .ok (.ifCond .ne 9, 3) := by decide +kernel
theorem dX12_readOneOf_15 : decode cX12_readOneOf 15 = .ok (.iinc 3 1, 3) := by decide +kernel
theorem dX12_readOneOf_18 : decode cX12_readOneOf 18 = .ok (.goto (-16), 3) := by decide +kernel
theorem dX12_readStir_0 : decode cX12_readStir 0 = .ok (.aload_n 0, 1) := by decide +kernel
theorem dX12_readStir_1 : decode cX12_readStir 1 = .ok (.iload_n 1, 1) := by decide +kernel
theorem dX12_readStir_2 : decode cX12_readStir 2 = .ok (.iconst 1, 1) := by decide +kernel
theorem dX12_readStir_3 : decode cX12_readStir 3 = .ok (.iadd, 1) := by decide +kernel
theorem dX12_readStir_4 : decode cX12_readStir 4 = .ok (.aload_n 0, 1) := by decide +kernel
theorem dX12_readStir_5 : decode cX12_readStir 5 = .ok (.bipush 8, 2) := by decide +kernel
theorem dX12_readStir_7 : decode cX12_readStir 7 = .ok (.bipush 9, 2) := by decide +kernel
theorem dX12_readStir_9 : decode cX12_readStir 9 = .ok (.invokevirtual 398, 3) := by decide +kernel
theorem dX12_readStir_12 : decode cX12_readStir 12 = .ok (.invokevirtual 401, 3) := by decide +kernel
theorem dX12_readStir_15 : decode cX12_readStir 15 = .ok (.ifCond .eq 41, 3) := by decide +kernel
theorem dX12_readStir_18 : decode cX12_readStir 18 = .ok (.aload_n 0, 1) := by decide +kernel
theorem dX12_readStir_19 : decode cX12_readStir 19 = .ok (.iload_n 1, 1) := by decide +kernel
theorem dX12_readStir_20 : decode cX12_readStir 20 = .ok (.iconst 2, 1) := by decide +kernel
theorem dX12_readStir_21 : decode cX12_readStir 21 = .ok (.iadd, 1) := by decide +kernel
theorem dX12_readStir_22 : decode cX12_readStir 22 = .ok (.aload_n 0, 1) := by decide +kernel
theorem dX12_readStir_23 : decode cX12_readStir 23 = .ok (.iconst 0, 1) := by decide +kernel
theorem dX12_readStir_24 : decode cX12_readStir 24 = .ok (.iconst 5, 1) := by decide +kernel
theorem dX12_readStir_25 : decode cX12_readStir 25 = .ok (.invokevirtual 200, 3) := by decide +kernel
theorem dX12_readStir_28 : decode cX12_readStir 28 = .ok (.invokevirtual 401, 3) := by decide +kernel
theorem dX12_readStir_31 : decode cX12_readStir 31 = .ok (.ifCond .eq 25, 3) := by decide +kernel
theorem dX12_readStir_34 : decode cX12_readStir 34 = .ok (.aload_n 0, 1) := by decide +kernel
theorem dX12_readStir_35 : decode cX12_readStir 35 = .ok (.iload_n 1, 1) := by decide +kernel
theorem dX12_readStir_36 : decode cX12_readStir 36 = .ok (.iconst 3, 1) := by decide +kernel
theorem dX12_readStir_37 : decode cX12_readStir 37 = .ok (.iadd, 1) := by decide +kernel
theorem dX12_readStir_38 : decode cX12_readStir 38 = .ok (.aload_n 0, 1) := by decide +kernel
theorem dX12_readStir_39 : decode cX12_readStir 39 = .ok (.bipush 10, 2) := by decide +kernel
theorem dX12_readStir_41 : decode cX12_readStir 41 = .ok (.bipush 11, 2) := by decide +kernel
theorem dX12_readStir_43 : decode cX12_readStir 43 = .ok (.invokevirtual 398, 3) := by decide +kernel
theorem dX12_readStir_46 : decode cX12_readStir 46 = .ok (.invokevirtual 401, 3) := by decide +kernel
theorem dX12_readStir_49 : decode cX12_readStir 49 = .ok (.ifCond .eq 7, 3) := by decide +kernel
theorem dX12_readStir_52 : decode cX12_readStir 52 = .ok (.iconst 1, 1) := by decide +kernel
theorem dX12_readStir_53 : decode cX12_readStir 53 = .ok (.goto 4, 3) := by decide +kernel
theorem dX12_readStir_57 : decode cX12_readStir 57 = .ok (.ireturn, 1) := by decide +kernel
theorem dX12_readStir_56 : decode cX12_readStir 56 = .ok (.iconst 0, 1) := by decide +kernel
theorem dX12_readPour_0 : decode cX12_readPour 0 = .ok (.aload_n 0, 1) := by decide +kernel
theorem dX12_readPour_1 : decode cX12_readPour 1 = .ok (.iload_n 1, 1) := by decide +kernel
theorem dX12_readPour_2 : decode cX12_readPour 2 = .ok (.iconst 1, 1) := by decide +kernel
theorem dX12_readPour_3 : decode cX12_readPour 3 = .ok (.iadd, 1) := by decide +kernel
theorem dX12_readPour_4 : decode cX12_readPour 4 = .ok (.aload_n 0, 1) := by decide +kernel
theorem dX12_readPour_5 : decode cX12_readPour 5 = .ok (.iconst 0, 1) := by decide +kernel
theorem dX12_readPour_6 : decode cX12_readPour 6 = .ok (.iconst 5, 1) := by decide +kernel
theorem dX12_readPour_7 : decode cX12_readPour 7 = .ok (.invokevirtual 200, 3) := by decide +kernel
theorem dX12_readPour_10 : decode cX12_readPour 10 = .ok (.invokevirtual 401, 3) := by decide +kernel
theorem dX12_readPour_13 : decode cX12_readPour 13 = .ok (.ifCond .eq 40, 3) := by decide +kernel
theorem dX12_readPour_16 : decode cX12_readPour 16 = .ok (.aload_n 0, 1) := by decide +kernel
theorem dX12_readPour_17 : decode cX12_readPour 17 = .ok (.iload_n 1, 1) := by decide +kernel
theorem dX12_readPour_18 : decode cX12_readPour 18 = .ok (.iconst 2, 1) := by decide +kernel
theorem dX12_readPour_19 : decode cX12_readPour 19 = .ok (.iadd, 1) := by decide +kernel
theorem dX12_readPour_20 : decode cX12_readPour 20 = .ok (.aload_n 0, 1) := by decide +kernel
theorem dX12_readPour_21 : decode cX12_readPour 21 = .ok (.iconst 0, 1) := by decide +kernel
theorem dX12_readPour_22 : decode cX12_readPour 22 = .ok (.iconst 5, 1) := by decide +kernel
theorem dX12_readPour_23 : decode cX12_readPour 23 = .ok (.invokevirtual 200, 3) := by decide +kernel
theorem dX12_readPour_26 : decode cX12_readPour 26 = .ok (.invokevirtual 401, 3) := by decide +kernel
theorem dX12_readPour_29 : decode cX12_readPour 29 = .ok (.ifCond .eq 24, 3) := by decide +kernel
theorem dX12_readPour_32 : decode cX12_readPour 32 = .ok (.aload_n 0, 1) := by decide +kernel
theorem dX12_readPour_33 : decode cX12_readPour 33 = .ok (.iload_n 1, 1) := by decide +kernel
theorem dX12_readPour_34 : decode cX12_readPour 34 = .ok (.iconst 3, 1) := by decide +kernel
theorem dX12_readPour_35 : decode cX12_readPour 35 = .ok (.iadd, 1) := by decide +kernel
theorem dX12_readPour_36 : decode cX12_readPour 36 = .ok (.aload_n 0, 1) := by decide +kernel
theorem dX12_readPour_37 : decode cX12_readPour 37 = .ok (.iconst 1, 1) := by decide +kernel
theorem dX12_readPour_38 : decode cX12_readPour 38 = .ok (.bipush 9, 2) := by decide +kernel
theorem dX12_readPour_40 : decode cX12_readPour 40 = .ok (.invokevirtual 200, 3) := by decide +kernel
theorem dX12_readPour_43 : decode cX12_readPour 43 = .ok (.invokevirtual 401, 3) := by decide +kernel
theorem dX12_readPour_46 : decode cX12_readPour 46 = .ok (.ifCond .eq 7, 3) := by decide +kernel
theorem dX12_readPour_49 : decode cX12_readPour 49 = .ok (.iconst 1, 1) := by decide +kernel
theorem dX12_readPour_50 : decode cX12_readPour 50 = .ok (.goto 4, 3) := by decide +kernel
theorem dX12_readPour_54 : decode cX12_readPour 54 = .ok (.ireturn, 1) := by decide +kernel
theorem dX12_readPour_53 : decode cX12_readPour 53 = .ok (.iconst 0, 1) := by decide +kernel
set_option maxRecDepth 100000 in
theorem ggX12_readOneOf_X12_go : GoodIn wsX12_readOneOf wsX12_go := goodIn_r _ [27, 28, 29, 30, 22, 31, 7, 32, 8, 33, 15, 16, 34, 35, 5, 36, 37, 38, 39, 40, 41, 42, 43, 44, 45, 46, 47, 48, 49, 50, 51, 52, 53, 54, 55, 56, 57, 58, 59, 60, 61, 62, 63, 64, 65, 66, 67, 68, 69, 70, 71, 72, 73, 74, 75, 76, 77, 78, 79, 80, 81, 82, 83, 84, 85, 86, 87, 88, 89, 90, 91, 92, 93, 94, 95] rfl (by decide +kernel)
set_option maxRecDepth 100000 in
theorem ggX12_readOneOf_X12_bad : GoodIn wsX12_readOneOf wsX12_bad := goodIn_r _ [20, 7, 21, 22, 23, 44, 45, 46, 47, 48, 49, 50, 51, 52, 53, 54, 55, 56, 57, 58, 59, 60, 61, 62, 63, 64, 65, 66, 67, 68, 69, 70, 71, 72, 73, 74, 75, 76, 77, 78, 79, 80, 81, 82, 83, 84, 85, 86, 87, 88, 89, 90, 91, 92, 93, 94, 95] rfl (by decide +kernel)
set_option maxRecDepth 100000 in
theorem ggX12_readOneOf_X12_isWord : GoodIn wsX12_readOneOf wsX12_isWord := goodIn_r _ [6, 7, 8, 9, 10, 5, 11, 12, 13, 14, 15, 16, 44, 45, 46, 47, 48, 49, 50, 51, 52, 53, 54, 55, 56, 57, 58, 59, 60, 61, 62, 63, 64, 65, 66, 67, 68, 69, 70, 71, 72, 73, 74, 75, 76, 77, 78, 79, 80, 81, 82, 83, 84, 85, 86, 87, 88, 89, 90, 91, 92, 93, 94, 95] rfl (by decide +kernel)
set_option maxRecDepth 100000 in
theorem ggX12_readStir_X12_readOneOf : GoodIn wsX12_readStir wsX12_readOneOf := goodIn_r _ [5, 6, 7, 8, 9, 4, 10, 11, 12, 13, 14, 15, 16, 17, 18, 19, 20, 21, 22, 23, 24, 25, 26, 27, 28, 29, 30, 31, 32, 33, 34, 35, 36, 37, 38, 39, 40, 41, 42, 43, 44, 45, 46, 47, 60, 61, 62, 63, 64, 65, 66, 67, 68, 69, 70, 71, 72, 73, 74, 75, 76, 77, 78, 79, 80, 81, 82, 83, 84, 85, 86, 87, 88, 89, 90, 91, 92, 93, 94, 95, 96, 97, 98, 99, 100, 101, 102, 103, 104, 105, 106, 107, 108, 109, 110, 111] rfl (by decide +kernel)
set_option maxRecDepth 100000 in
theorem ggX12_readStir_X12_keep : GoodIn wsX12_readStir wsX12_keep := goodIn_r _ [51, 52, 6, 60, 61, 62, 63, 64, 65, 66, 67, 68, 69, 70, 71, 72, 73, 74, 75, 76, 77, 78, 79, 80, 81, 82, 83, 84, 85, 86, 87, 88, 89, 90, 91, 92, 93, 94, 95, 96, 97, 98, 99, 100, 101, 102, 103, 104, 105, 106, 107, 108, 109, 110, 111] rfl (by decide +kernel)
set_option maxRecDepth 100000 in
theorem ggX12_readStir_X12_readNumber : GoodIn wsX12_readStir wsX12_readNumber := goodIn_r _ [56, 11, 37, 6, 21, 22, 23, 4, 24, 25, 26, 27, 57, 58, 59, 28, 29, 30, 31, 32, 33, 34, 35, 36, 12, 19, 20, 38, 39, 40, 41, 42, 43, 44, 45, 46, 47, 60, 61, 62, 63, 64, 65, 66, 67, 68, 69, 70, 71, 72, 73, 74, 75, 76, 77, 78, 79, 80, 81, 82, 83, 84, 85, 86, 87, 88, 89, 90, 91, 92, 93, 94, 95, 96, 97, 98, 99, 100, 101, 102, 103, 104, 105, 106, 107, 108, 109, 110, 111] rfl (by decide +kernel)
set_option maxRecDepth 100000 in
theorem ggX12_readPour_X12_readNumber : GoodIn wsX12_readPour wsX12_readNumber := goodIn_r _ [5, 6, 7, 8, 9, 10, 11, 4, 12, 13, 14, 15, 16, 17, 18, 19, 20, 21, 22, 23, 24, 25, 26, 27, 28, 29, 30, 31, 32, 33, 34, 35, 36, 37, 38, 39, 40, 46, 47, 48, 49, 50, 51, 52, 53, 54, 55, 56, 57, 58, 59, 60, 61, 62, 63, 64, 65, 66, 67, 68, 69, 70, 71, 72, 73, 74, 75, 76, 77, 78, 79, 80, 81, 82, 83, 84, 85, 86, 87, 88, 89, 90, 91, 92, 93, 94, 95, 96, 97] rfl (by decide +kernel)
set_option maxRecDepth 100000 in
theorem ggX12_readPour_X12_keep : GoodIn wsX12_readPour wsX12_keep := goodIn_r _ [44, 45, 8, 46, 47, 48, 49, 50, 51, 52, 53, 54, 55, 56, 57, 58, 59, 60, 61, 62, 63, 64, 65, 66, 67, 68, 69, 70, 71, 72, 73, 74, 75, 76, 77, 78, 79, 80, 81, 82, 83, 84, 85, 86, 87, 88, 89, 90, 91, 92, 93, 94, 95, 96, 97] rfl (by decide +kernel)
set_option maxRecDepth 100000 in
theorem gX12_readOneOf_X12_go : GoodIn wsX12_readOneOf (wsV RX12 82 RX12 yX12_go wsX12_go) := goodIn_app (goodIn_of _ (by decide +kernel)) ggX12_readOneOf_X12_go
set_option maxRecDepth 100000 in
theorem gX12_readOneOf_X12_bad : GoodIn wsX12_readOneOf (wsV RX12 72 RX12 yX12_bad wsX12_bad) := goodIn_app (goodIn_of _ (by decide +kernel)) ggX12_readOneOf_X12_bad
set_option maxRecDepth 100000 in
theorem gX12_readOneOf_X12_isWord : GoodIn wsX12_readOneOf (wsV RX12 213 RX12 yX12_isWord wsX12_isWord) := goodIn_app (goodIn_of _ (by decide +kernel)) ggX12_readOneOf_X12_isWord
set_option maxRecDepth 100000 in
theorem gX12_readStir_X12_readOneOf : GoodIn wsX12_readStir (wsV RX12 398 RX12 yX12_readOneOf wsX12_readOneOf) := goodIn_app (goodIn_of _ (by decide +kernel)) ggX12_readStir_X12_readOneOf
set_option maxRecDepth 100000 in
theorem gX12_readStir_X12_keep : GoodIn wsX12_readStir (wsV RX12 401 RX12 yX12_keep wsX12_keep) := goodIn_app (goodIn_of _ (by decide +kernel)) ggX12_readStir_X12_keep
set_option maxRecDepth 100000 in
theorem gX12_readStir_X12_readNumber : GoodIn wsX12_readStir (wsV RX12 200 RX12 yX12_readNumber wsX12_readNumber) := goodIn_app (goodIn_of _ (by decide +kernel)) ggX12_readStir_X12_readNumber
set_option maxRecDepth 100000 in
theorem gX12_readPour_X12_readNumber : GoodIn wsX12_readPour (wsV RX12 200 RX12 yX12_readNumber wsX12_readNumber) := goodIn_app (goodIn_of _ (by decide +kernel)) ggX12_readPour_X12_readNumber
set_option maxRecDepth 100000 in
theorem gX12_readPour_X12_keep : GoodIn wsX12_readPour (wsV RX12 401 RX12 yX12_keep wsX12_keep) := goodIn_app (goodIn_of _ (by decide +kernel)) ggX12_readPour_X12_keep
/-- a line of a book: what it is, and its numbers within what that asks -/
def LineOk (w x y z : Int32) : Prop := (0 ≤ w.toInt ∧ w.toInt ≤ 5) ∧ (¬ w = nI 0 ∨ (0 ≤ x.toInt ∧ x.toInt ≤ 1 ∧ 0 ≤ y.toInt ∧ y.toInt ≤ 5 ∧ 0 ≤ z.toInt ∧ z.toInt ≤ 1)) ∧ (¬ w = nI 1 ∨ (0 ≤ x.toInt ∧ x.toInt ≤ 5 ∧ 0 ≤ y.toInt ∧ y.toInt ≤ 3)) ∧ ((¬ w = nI 2 ∧ ¬ w = nI 3) ∨ (1 ≤ z.toInt ∧ z.toInt ≤ 9))
def LB (f : Nat → Int32) (m : Nat) : Prop := ∀ k, k < m → LineOk (f (4 * k)) (f (4 * k + 1)) (f (4 * k + 2)) (f (4 * k + 3))
theorem LB_zero (f : Nat → Int32) : LB f 0 := fun _ h => absurd h (Nat.not_lt_zero _)
theorem LB_step {f g : Nat → Int32} {m : Nat} (h : LB f m) (he : ∀ j, j < 4 * m → g j = f j) (hn : LineOk (g (4 * m)) (g (4 * m + 1)) (g (4 * m + 2)) (g (4 * m + 3))) : LB g (m + 1) := by
  intro k hk
  by_cases e : k = m
  · rw [e]; exact hn
  · have h1 := h k (by omega)
    rw [he (4 * k) (by omega), he (4 * k + 1) (by omega), he (4 * k + 2) (by omega), he (4 * k + 3) (by omega)]
    exact h1
theorem lgc_eq (a b : Int64) (h : lg_cmp a b = 0) : a = b := by
  unfold lg_cmp at h
  split at h
  · exact absurd h (by decide)
  · split at h
    · assumption
    · exact absurd h (by decide)
theorem lgc_ne (a b : Int64) (h : lg_cmp a b ≠ 0) : ¬ a = b := by
  intro e
  apply h
  unfold lg_cmp
  have h2 : ¬ (b > b) := fun q => Int64.lt_irrefl q
  rw [e, if_neg h2, if_pos rfl]
theorem lineOk0 {x y z : Int32} (h1 : 0 ≤ x.toInt) (h2 : x.toInt ≤ 1) (h3 : 0 ≤ y.toInt) (h4 : y.toInt ≤ 5) (h5 : 0 ≤ z.toInt) (h6 : z.toInt ≤ 1) : LineOk (nI 0) x y z := ⟨by decide, Or.inr ⟨h1, h2, h3, h4, h5, h6⟩, Or.inl (by decide), Or.inl (by decide)⟩
theorem lineOk1 {x y z : Int32} (h1 : 0 ≤ x.toInt) (h2 : x.toInt ≤ 5) (h3 : 0 ≤ y.toInt) (h4 : y.toInt ≤ 3) : LineOk (nI 1) x y z := ⟨by decide, Or.inl (by decide), Or.inr ⟨h1, h2, h3, h4⟩, Or.inl (by decide)⟩
theorem lineOk2 {x y z : Int32} (h1 : 1 ≤ z.toInt) (h2 : z.toInt ≤ 9) : LineOk (nI 2) x y z := ⟨by decide, Or.inl (by decide), Or.inl (by decide), Or.inr ⟨h1, h2⟩⟩
theorem lineOk3 {x y z : Int32} (h1 : 1 ≤ z.toInt) (h2 : z.toInt ≤ 9) : LineOk (nI 3) x y z := ⟨by decide, Or.inl (by decide), Or.inl (by decide), Or.inr ⟨h1, h2⟩⟩
theorem lineOk4 {x y z : Int32} : LineOk (nI 4) x y z := ⟨by decide, Or.inl (by decide), Or.inl (by decide), Or.inl (by decide)⟩
theorem lineOk5 {x y z : Int32} : LineOk (nI 5) x y z := ⟨by decide, Or.inl (by decide), Or.inl (by decide), Or.inl (by decide)⟩
set_option maxRecDepth 20000 in
theorem lf_x_findInX_1 (nmF : Nat → Int64) (bq : Nat) (y : Int32) (wq : Int64) (k5 : Nat) (n8 : Nat) (hb6 : bq ≤ 6) (hy6 : y.toInt ≤ 6) (j6 : k5 ≤ 6) (hnf : ∀ j9, j9 < k5 → ¬ nmF (bq + j9) = wq) (hm10 : 6 - k5 < n8 + 1) (c11 : y ≤ nI k5) : ((-1 : Int32) = (-1 : Int32) ∧ (∀ j9, j9 < 6 → ((j9 : Nat) : Int) < y.toInt → ¬ nmF (bq + j9) = wq)) ∨ (∃ k9 : Nat, (k9 < 6 ∧ ((k9 : Nat) : Int) < y.toInt ∧ nmF (bq + k9) = wq) ∧ (-1 : Int32) = nI k9) := by
  refine Or.inl ⟨rfl, fun j9 h1 h2 => hnf j9 ?_⟩
  have b_y := ia_b y
  have b_wq := Int64.toInt_lt wq
  try have k_0 := ia_n k5 (by first | decide | omega)
  try have k_1 := ia_n k9 (by first | decide | omega)
  try simp only [ia_lt, ia_le, ia_eq, ia_m1, ia_0, ia_1, ne_eq, true_and, and_true, false_and, and_false, or_false, false_or, or_true, true_or, not_true_eq_false, not_false_eq_true] at *
  all_goals omega
set_option maxRecDepth 20000 in
theorem lf_x_findInX_2 (nmF : Nat → Int64) (bq : Nat) (y : Int32) (wq : Int64) (k5 : Nat) (n8 : Nat) (y12 : Int64) (hb6 : bq ≤ 6) (hy6 : y.toInt ≤ 6) (j6 : k5 ≤ 6) (hnf : ∀ j9, j9 < k5 → ¬ nmF (bq + j9) = wq) (hm10 : 6 - k5 < n8 + 1) (c11 : ¬ y ≤ nI k5) (e13 : y12 = nmF (bq + k5)) : (bq + k5) < 12 := by
  have b_y := ia_b y
  have b_wq := Int64.toInt_lt wq
  have b_y12 := Int64.toInt_lt y12
  try have k_0 := ia_n k5 (by first | decide | omega)
  try simp only [ia_lt, ia_le, ia_eq, ia_m1, ia_0, ia_1, ne_eq, true_and, and_true, false_and, and_false, or_false, false_or, or_true, true_or, not_true_eq_false, not_false_eq_true] at *
  all_goals omega
set_option maxRecDepth 20000 in
theorem lf_x_findInX_3 (nmF : Nat → Int64) (bq : Nat) (y : Int32) (wq : Int64) (k5 : Nat) (n8 : Nat) (y12 : Int64) (y14 : Int32) (hb6 : bq ≤ 6) (hy6 : y.toInt ≤ 6) (j6 : k5 ≤ 6) (hnf : ∀ j9, j9 < k5 → ¬ nmF (bq + j9) = wq) (hm10 : 6 - k5 < n8 + 1) (c11 : ¬ y ≤ nI k5) (e13 : y12 = nmF (bq + k5)) (e15 : y14 = lg_cmp y12 wq) (c16 : y14 ≠ 0) : (k5 + 1) ≤ 6 := by
  have b_y := ia_b y
  have b_y14 := ia_b y14
  have b_wq := Int64.toInt_lt wq
  have b_y12 := Int64.toInt_lt y12
  try have k_0 := ia_n k5 (by first | decide | omega)
  try simp only [ia_lt, ia_le, ia_eq, ia_m1, ia_0, ia_1, ne_eq, true_and, and_true, false_and, and_false, or_false, false_or, or_true, true_or, not_true_eq_false, not_false_eq_true] at *
  all_goals omega
set_option maxRecDepth 20000 in
theorem lf_x_findInX_4 (nmF : Nat → Int64) (bq : Nat) (y : Int32) (wq : Int64) (k5 : Nat) (n8 : Nat) (y12 : Int64) (y14 : Int32) (hb6 : bq ≤ 6) (hy6 : y.toInt ≤ 6) (j6 : k5 ≤ 6) (hnf : ∀ j9, j9 < k5 → ¬ nmF (bq + j9) = wq) (hm10 : 6 - k5 < n8 + 1) (c11 : ¬ y ≤ nI k5) (e13 : y12 = nmF (bq + k5)) (e15 : y14 = lg_cmp y12 wq) (c16 : y14 ≠ 0) : ∀ j9, j9 < (k5 + 1) → ¬ nmF (bq + j9) = wq := by
  intro j9 hj9
  by_cases h9 : j9 = k5
  · rw [h9, ← e13]; exact lgc_ne _ _ (by rw [← e15]; exact c16)
  · exact hnf j9 (by omega)
set_option maxRecDepth 20000 in
theorem lf_x_findInX_5 (nmF : Nat → Int64) (bq : Nat) (y : Int32) (wq : Int64) (k5 : Nat) (n8 : Nat) (y12 : Int64) (y14 : Int32) (hb6 : bq ≤ 6) (hy6 : y.toInt ≤ 6) (j6 : k5 ≤ 6) (hnf : ∀ j9, j9 < k5 → ¬ nmF (bq + j9) = wq) (hm10 : 6 - k5 < n8 + 1) (c11 : ¬ y ≤ nI k5) (e13 : y12 = nmF (bq + k5)) (e15 : y14 = lg_cmp y12 wq) (c16 : y14 ≠ 0) : 6 - (k5 + 1) < n8 := by
  have b_y := ia_b y
  have b_y14 := ia_b y14
  have b_wq := Int64.toInt_lt wq
  have b_y12 := Int64.toInt_lt y12
  try have k_0 := ia_n k5 (by first | decide | omega)
  try simp only [ia_lt, ia_le, ia_eq, ia_m1, ia_0, ia_1, ne_eq, true_and, and_true, false_and, and_false, or_false, false_or, or_true, true_or, not_true_eq_false, not_false_eq_true] at *
  all_goals omega
set_option maxRecDepth 20000 in
theorem lf_x_findInX_6 (nmF : Nat → Int64) (bq : Nat) (y : Int32) (wq : Int64) (k5 : Nat) (n8 : Nat) (y12 : Int64) (y14 : Int32) (hb6 : bq ≤ 6) (hy6 : y.toInt ≤ 6) (j6 : k5 ≤ 6) (hnf : ∀ j9, j9 < k5 → ¬ nmF (bq + j9) = wq) (hm10 : 6 - k5 < n8 + 1) (c11 : ¬ y ≤ nI k5) (e13 : y12 = nmF (bq + k5)) (e15 : y14 = lg_cmp y12 wq) (c16 : y14 = 0) : ((nI k5) = (-1 : Int32) ∧ (∀ j9, j9 < 6 → ((j9 : Nat) : Int) < y.toInt → ¬ nmF (bq + j9) = wq)) ∨ (∃ k9 : Nat, (k9 < 6 ∧ ((k9 : Nat) : Int) < y.toInt ∧ nmF (bq + k9) = wq) ∧ (nI k5) = nI k9) := by
  refine Or.inr ⟨k5, ⟨?_, ?_, ?_⟩, rfl⟩
  · have b_y := ia_b y
    have b_y14 := ia_b y14
    have b_wq := Int64.toInt_lt wq
    have b_y12 := Int64.toInt_lt y12
    try have k_0 := ia_n k5 (by first | decide | omega)
    try have k_1 := ia_n k9 (by first | decide | omega)
    try simp only [ia_lt, ia_le, ia_eq, ia_m1, ia_0, ia_1, ne_eq, true_and, and_true, false_and, and_false, or_false, false_or, or_true, true_or, not_true_eq_false, not_false_eq_true] at *
    all_goals omega
  · have b_y := ia_b y
    have b_y14 := ia_b y14
    have b_wq := Int64.toInt_lt wq
    have b_y12 := Int64.toInt_lt y12
    try have k_0 := ia_n k5 (by first | decide | omega)
    try have k_1 := ia_n k9 (by first | decide | omega)
    try simp only [ia_lt, ia_le, ia_eq, ia_m1, ia_0, ia_1, ne_eq, true_and, and_true, false_and, and_false, or_false, false_or, or_true, true_or, not_true_eq_false, not_false_eq_true] at *
    all_goals omega
  · rw [← e13]; exact lgc_eq _ _ (by rw [← e15]; exact c16)
set_option maxRecDepth 20000 in
theorem lf_x_findInX_7   : 0 ≤ 6 := by
  try simp only [ia_lt, ia_le, ia_eq, ia_m1, ia_0, ia_1, ne_eq, true_and, and_true, false_and, and_false, or_false, false_or, or_true, true_or, not_true_eq_false, not_false_eq_true] at *
  all_goals omega
set_option maxRecDepth 20000 in
theorem lf_x_findInX_8 (nmF : Nat → Int64) (bq : Nat) (wq : Int64) (hb6 : bq ≤ 6) : ∀ j9, j9 < 0 → ¬ nmF (bq + j9) = wq := by
  intro j9 hj9
  omega
set_option maxHeartbeats 4000000 in
set_option maxRecDepth 100000 in
theorem c_x_findInX (l : Launch) (dC : Nat → ClassId) (dI : Nat → Nat → Nat) (ky : Nat → ClassId) (nm : Nat) (nmF : Nat → Int64) (bq : Nat) (y : Int32) (wq : Int64) (hb6 : bq ≤ 6) (hy6 : y.toInt ≤ 6) : Met l yX12_findIn wsX12_findIn ({ frames := 0, cells := 0, slots := 0, locals := 0 }) (PcP dC dI ky [.ref nm, .int (nI bq), .int y, .long wq] [(nm, .inl (ky 1, 12, .inr (.inl nmF)))]) (vp_Si (fun r : Int32 => (r = (-1 : Int32) ∧ (∀ j9, j9 < 6 → ((j9 : Nat) : Int) < y.toInt → ¬ nmF (bq + j9) = wq)) ∨ (∃ k9 : Nat, (k9 < 6 ∧ ((k9 : Nat) : Int) < y.toInt ∧ nmF (bq + k9) = wq) ∧ r = nI k9))) 0 0 (fun _ => False) := by
  refine Met.ofW (cc := cX12_findIn) (maxL := 6) (ret := (some .int)) (by decide) rfl ?_
  intro p e s m args below meth c s₁ B hml hv
  obtain ⟨rfl, hP, hK⟩ := hv
  have hx := B.exec
  have hb := B.bytes
  have hr := B.returns
  have hts := atoms_spec (ws := wsX12_findIn) B.pre
  have hown : s.vm.findClass RX12 = some m.cls := findClass_of_methodNamed B.named
  have hlocks := B.notSynchronized
  have hl := lv_entry ([.ref nm, .int (nI bq), .int y, .long wq]) (n := 6) (Nat.le_of_ble_eq_true rfl)
  rw [lg_entry_eq]
  generalize (lg_sl ([.ref nm, .int (nI bq), .int y, .long wq]) ++ List.replicate (6 - (lg_sl ([.ref nm, .int (nI bq), .int y, .long wq])).length) Slot.unset).toArray = ls at hl ⊢
  have hl : lv_has ls 6 [(0, .ref nm), (1, .int (nI bq)), (2, .int y), (3, .long wq)] := hl
  refine q_name (fun Q hQ => ?_)
  generalize ([.ref nm, .int (nI bq), .int y, .long wq] : List Value).toArray = args at hts hQ ⊢
  refine lv_iconst (v := nI 0) hx hb dX12_findIn_0 (by decide) ?_
  refine lv_istore (lv' := [(5, .int (nI 0)), (0, .ref nm), (1, .int (nI bq)), (2, .int y), (3, .long wq)]) hx hb dX12_findIn_1 hl (by decide) rfl (fun ls hl => ?_)
  have hL7 : ∀ (n8 : Nat) (k5 : Nat), (k5 ≤ 6) → (∀ j9, j9 < k5 → ¬ nmF (bq + j9) = wq) → 6 - k5 < n8 → ∀ (ls : Array Slot), lv_has ls 6 [(5, .int (nI k5)), (0, .ref nm), (1, .int (nI bq)), (2, .int y), (3, .long wq)] → W p l e (headSpec wsX12_findIn ({ frames := 0, cells := 0, slots := 0, locals := 0 })).room s m args below meth c s.heap [] 0 0 Q (F0 m 3 ls []) := by
    intro n8
    induction n8 with
    | zero => intro k5 _ _ h9; exact absurd h9 (Nat.not_lt_zero _)
    | succ n8 ih9 =>
      intro k5 j6 hnf hm10 ls hl
      refine lv_iload hx hb dX12_findIn_3 (lv_at hl 0 rfl) ?_
      refine lv_iload_n hx hb dX12_findIn_5 rfl (lv_at hl 3 rfl) ?_
      refine lv_icmp_ge (tgt := 29) hx hb dX12_findIn_6 (by decide) (fun c11 => ?_) (fun c11 => ?_)
      · refine lv_iconst (v := (-1 : Int32)) hx hb dX12_findIn_29 (by decide) ?_
        rw [hQ]
        exact W.iret (v := (-1 : Int32)) hx hb hr (fun t9 ht9 hW9 => ⟨(-1 : Int32), rfl, (lf_x_findInX_1 nmF bq y wq k5 n8 hb6 hy6 j6 hnf hm10 c11), ht9⟩) (fun _ h => absurd h List.not_mem_nil) dX12_findIn_30
      · refine lv_aload_n hx hb dX12_findIn_9 rfl (lv_at hl 1 rfl) ?_
        refine lv_iload_n hx hb dX12_findIn_10 rfl (lv_at hl 2 rfl) ?_
        refine lv_iload hx hb dX12_findIn_11 (lv_at hl 0 rfl) ?_
        refine lv_iadd hx hb dX12_findIn_13 ?_
        refine r_ti (nI (bq + k5)) (nI_add _ _) ?_
        obtain ⟨y12, e13⟩ : ∃ z9, z9 = nmF (bq + k5) := ⟨_, rfl⟩
        refine r_lald hx hb hK hP 0 rfl (bq + k5) (lf_x_findInX_2 nmF bq y wq k5 n8 y12 hb6 hy6 j6 hnf hm10 c11 e13) (by decide) y12 e13.symm dX12_findIn_14 ?_
        refine lv_lload_n hx hb dX12_findIn_15 rfl (lv_at hl 4 rfl) ?_
        refine W.lcmp hx hb dX12_findIn_16 ?_
        refine lv_topi (fun y14 e15 => ?_)
        refine lv_if_ne (tgt := 23) hx hb dX12_findIn_17 (by decide) (fun c16 => ?_) (fun c16 => ?_)
        · refine lv_iinc (v := nI (k5 + 1)) (lv' := [(5, .int (nI (k5 + 1))), (0, .ref nm), (1, .int (nI bq)), (2, .int y), (3, .long wq)]) hx hb dX12_findIn_23 hl (k := 0) rfl (show nI k5 + nI 1 = nI (k5 + 1) from nI_add _ _) (by decide) rfl (fun ls hl => ?_)
          refine lv_goto (tgt := 3) hx hb dX12_findIn_26 (by decide) ?_
          exact ih9 (k5 + 1) (lf_x_findInX_3 nmF bq y wq k5 n8 y12 y14 hb6 hy6 j6 hnf hm10 c11 e13 e15 c16) (lf_x_findInX_4 nmF bq y wq k5 n8 y12 y14 hb6 hy6 j6 hnf hm10 c11 e13 e15 c16) (lf_x_findInX_5 nmF bq y wq k5 n8 y12 y14 hb6 hy6 j6 hnf hm10 c11 e13 e15 c16) _ (lv_sub hl [0, 1, 2, 3, 4] rfl)
        · refine lv_iload hx hb dX12_findIn_20 (lv_at hl 0 rfl) ?_
          rw [hQ]
          exact W.iret (v := nI k5) hx hb hr (fun t9 ht9 hW9 => ⟨nI k5, rfl, (lf_x_findInX_6 nmF bq y wq k5 n8 y12 y14 hb6 hy6 j6 hnf hm10 c11 e13 e15 c16), ht9⟩) (fun _ h => absurd h List.not_mem_nil) dX12_findIn_22
  exact hL7 ((6 - 0) + 1) 0 (lf_x_findInX_7) (lf_x_findInX_8 nmF bq wq hb6) (Nat.lt_succ_self _) _ (lv_sub hl [0, 1, 2, 3, 4] rfl)
set_option maxRecDepth 20000 in
theorem lf_x_keep0_1   : (nI 0) = nI 0 := by
  try have k_0 := ia_n 0 (by first | decide | omega)
  try simp only [ia_lt, ia_le, ia_eq, ia_m1, ia_0, ia_1, ne_eq, true_and, and_true, false_and, and_false, or_false, false_or, or_true, true_or, not_true_eq_false, not_false_eq_true] at *
  all_goals omega
set_option maxHeartbeats 4000000 in
set_option maxRecDepth 100000 in
theorem c_x_keep0 (l : Launch) (dC : Nat → ClassId) (dI : Nat → Nat → Nat) (ky : Nat → ClassId) (o : Nat) (kthrown : Int32) (ktape : Nat) (ktaped : Nat) (ksize : Nat) (klimit : Nat) (kto : Nat) (kfrom : Nat) (kkind : Int32) (knumber : Int32) (ksign : Int32) (kfault : Int32) (kplace : Int32) (kword : Int64) (ktold : Int32) (know : Nat) (kread : Nat) (kkept : Nat) (ksnaps : Nat) (kaside : Nat) (kname : Nat) (kreadName : Nat) (kkeptName : Nat) (kisKept : Nat) (konces : Nat) (ksnapMany : Nat) (khasCells : Int32) (kpoured : Nat) (kfar : Nat) (ksides : Nat) (ksideMany : Nat) (kwayDays : Int32) (khasWay : Int32) (klines : Nat) (kmet : Nat) (kmetMany : Nat) (ksunk : Nat) (ktrying : Nat) (ksunkMany : Nat) (ksending : Int32) (kfleets : Int32) (ktext : Nat) (ktexts : Nat) (kseed : Int32) (kline : Nat) (kwritten : Nat) (klineMany : Nat) (khasWritten : Int32) (knode : Nat) (knodes : Nat) (konesMany : Nat) (kwithin : Nat) (ktop : Nat) (x : Int32) (iv_ko_0 : ktaped ≤ 940) (iv_ko_1 : ksize ≤ 940) (iv_ko_2 : klimit ≤ 900) (iv_ko_3 : kto ≤ ksize) (iv_ko_4 : kfrom ≤ 940) (iv_ko_5 : ksnapMany ≤ 8) (iv_ko_6 : ksideMany ≤ 36) (iv_ko_7 : kmetMany ≤ 3) (iv_ko_8 : ksunkMany ≤ 36) (iv_ko_9 : ktexts ≤ 64) (iv_ko_10 : klineMany ≤ 40) (iv_ko_11 : knodes ≤ 60) (iv_ko_12 : konesMany ≤ 20) (iv_ko_13 : kwithin ≤ 8) (iv_ko_14 : ktop ≤ 59) : Met l yX12_keep wsX12_keep ({ frames := 0, cells := 0, slots := 0, locals := 0 }) (PcP dC dI ky [.ref o, .int x, .int (nI 0)] [(o, .inr (12, [.int kthrown, .ref ktape, .int (nI ktaped), .int (nI ksize), .int (nI klimit), .int (nI kto), .int (nI kfrom), .int kkind, .int knumber, .int ksign, .int kfault, .int kplace, .long kword, .int ktold, .ref know, .ref kread, .ref kkept, .ref ksnaps, .ref kaside, .ref kname, .ref kreadName, .ref kkeptName, .ref kisKept, .ref konces, .int (nI ksnapMany), .int khasCells, .ref kpoured, .ref kfar, .ref ksides, .int (nI ksideMany), .int kwayDays, .int khasWay, .ref klines, .ref kmet, .int (nI kmetMany), .ref ksunk, .ref ktrying, .int (nI ksunkMany), .int ksending, .int kfleets, .ref ktext, .int (nI ktexts), .int kseed, .ref kline, .ref kwritten, .int (nI klineMany), .int khasWritten, .ref knode, .int (nI knodes), .int (nI konesMany), .int (nI kwithin), .int (nI ktop)]))]) (vp_Si (fun r : Int32 => r = nI 0)) 0 0 (fun _ => False) := by
  refine Met.ofW (cc := cX12_keep) (maxL := 3) (ret := (some .boolean)) (by decide) rfl ?_
  intro p e s m args below meth c s₁ B hml hv
  obtain ⟨rfl, hP, hK⟩ := hv
  have hx := B.exec
  have hb := B.bytes
  have hr := B.returns
  have hts := atoms_spec (ws := wsX12_keep) B.pre
  have hown : s.vm.findClass RX12 = some m.cls := findClass_of_methodNamed B.named
  have hlocks := B.notSynchronized
  have hl := lv_entry ([.ref o, .int x, .int (nI 0)]) (n := 3) (Nat.le_of_ble_eq_true rfl)
  rw [lg_entry_eq]
  generalize (lg_sl ([.ref o, .int x, .int (nI 0)]) ++ List.replicate (3 - (lg_sl ([.ref o, .int x, .int (nI 0)])).length) Slot.unset).toArray = ls at hl ⊢
  have hl : lv_has ls 3 [(0, .ref o), (1, .int x), (2, .int (nI 0))] := hl
  refine q_name (fun Q hQ => ?_)
  generalize ([.ref o, .int x, .int (nI 0)] : List Value).toArray = args at hts hQ ⊢
  refine lv_iload_n hx hb dX12_keep_0 rfl (lv_at hl 2 rfl) ?_
  refine lv_if_eq (tgt := 14) hx hb dX12_keep_1 (by decide) (fun c1 => ?_) (fun c1 => absurd (by decide) c1)
  refine lv_iload_n hx hb dX12_keep_14 rfl (lv_at hl 2 rfl) ?_
  rw [hQ]
  exact W.zret (v := nI 0) hx hb hr (by decide) (fun t9 ht9 hW9 => ⟨nI 0, rfl, (lf_x_keep0_1), ht9⟩) (fun _ h => absurd h List.not_mem_nil) dX12_keep_15
set_option maxRecDepth 20000 in
theorem lf_x_keep1_1 (aq : Nat) (ha : aq < 160) : aq < 160 := by
  try simp only [ia_lt, ia_le, ia_eq, ia_m1, ia_0, ia_1, ne_eq, true_and, and_true, false_and, and_false, or_false, false_or, or_true, true_or, not_true_eq_false, not_false_eq_true] at *
  all_goals omega
set_option maxRecDepth 20000 in
theorem lf_x_keep1_2   : (nI 1) = nI 1 := by
  try have k_0 := ia_n 1 (by first | decide | omega)
  try simp only [ia_lt, ia_le, ia_eq, ia_m1, ia_0, ia_1, ne_eq, true_and, and_true, false_and, and_false, or_false, false_or, or_true, true_or, not_true_eq_false, not_false_eq_true] at *
  all_goals omega
set_option maxHeartbeats 4000000 in
set_option maxRecDepth 100000 in
theorem c_x_keep1 (l : Launch) (dC : Nat → ClassId) (dI : Nat → Nat → Nat) (ky : Nat → ClassId) (sz : Nat) (o : Nat) (kthrown : Int32) (ktape : Nat) (ktaped : Nat) (ksize : Nat) (klimit : Nat) (kto : Nat) (kfrom : Nat) (kkind : Int32) (knumber : Int32) (ksign : Int32) (kfault : Int32) (kplace : Int32) (kword : Int64) (ktold : Int32) (know : Nat) (kread : Nat) (kkept : Nat) (ksnaps : Nat) (kaside : Nat) (kname : Nat) (kreadName : Nat) (kkeptName : Nat) (kisKept : Nat) (konces : Nat) (ksnapMany : Nat) (khasCells : Int32) (kpoured : Nat) (kfar : Nat) (ksides : Nat) (ksideMany : Nat) (kwayDays : Int32) (khasWay : Int32) (klines : Nat) (kmet : Nat) (kmetMany : Nat) (ksunk : Nat) (ktrying : Nat) (ksunkMany : Nat) (ksending : Int32) (kfleets : Int32) (ktext : Nat) (ktexts : Nat) (kseed : Int32) (kline : Nat) (kwritten : Nat) (klineMany : Nat) (khasWritten : Int32) (knode : Nat) (knodes : Nat) (konesMany : Nat) (kwithin : Nat) (ktop : Nat) (klineF : Nat → Int32) (aq : Nat) (iv_ko_0 : ktaped ≤ 940) (iv_ko_1 : ksize ≤ 940) (iv_ko_2 : klimit ≤ 900) (iv_ko_3 : kto ≤ ksize) (iv_ko_4 : kfrom ≤ 940) (iv_ko_5 : ksnapMany ≤ 8) (iv_ko_6 : ksideMany ≤ 36) (iv_ko_7 : kmetMany ≤ 3) (iv_ko_8 : ksunkMany ≤ 36) (iv_ko_9 : ktexts ≤ 64) (iv_ko_10 : klineMany ≤ 40) (iv_ko_11 : knodes ≤ 60) (iv_ko_12 : konesMany ≤ 20) (iv_ko_13 : kwithin ≤ 8) (iv_ko_14 : ktop ≤ 59) (ha : aq < 160) : Met l yX12_keep wsX12_keep ({ frames := 0, cells := 0, slots := 0, locals := 0 }) (PcU dC dI ky [.ref o, .int (nI aq), .int (nI 1)] [(o, .inr (12, [.int kthrown, .ref ktape, .int (nI ktaped), .int (nI ksize), .int (nI klimit), .int (nI kto), .int (nI kfrom), .int kkind, .int knumber, .int ksign, .int kfault, .int kplace, .long kword, .int ktold, .ref know, .ref kread, .ref kkept, .ref ksnaps, .ref kaside, .ref kname, .ref kreadName, .ref kkeptName, .ref kisKept, .ref konces, .int (nI ksnapMany), .int khasCells, .ref kpoured, .ref kfar, .ref ksides, .int (nI ksideMany), .int kwayDays, .int khasWay, .ref klines, .ref kmet, .int (nI kmetMany), .ref ksunk, .ref ktrying, .int (nI ksunkMany), .int ksending, .int kfleets, .ref ktext, .int (nI ktexts), .int kseed, .ref kline, .ref kwritten, .int (nI klineMany), .int khasWritten, .ref knode, .int (nI knodes), .int (nI konesMany), .int (nI kwithin), .int (nI ktop)])), (kline, .inl (ky 0, 160, .inl klineF))] sz) (va_Qi (fun (r : Int32) (klineG : (Nat → Int32)) => (r = nI 1) ∧ (klineG = upd klineF aq ktold)) (BU dC dI ky (fun (klineG : (Nat → Int32)) => [(o, .inr (12, [.int kthrown, .ref ktape, .int (nI ktaped), .int (nI ksize), .int (nI klimit), .int (nI kto), .int (nI kfrom), .int kkind, .int knumber, .int ksign, .int kfault, .int kplace, .long kword, .int ktold, .ref know, .ref kread, .ref kkept, .ref ksnaps, .ref kaside, .ref kname, .ref kreadName, .ref kkeptName, .ref kisKept, .ref konces, .int (nI ksnapMany), .int khasCells, .ref kpoured, .ref kfar, .ref ksides, .int (nI ksideMany), .int kwayDays, .int khasWay, .ref klines, .ref kmet, .int (nI kmetMany), .ref ksunk, .ref ktrying, .int (nI ksunkMany), .int ksending, .int kfleets, .ref ktext, .int (nI ktexts), .int kseed, .ref kline, .ref kwritten, .int (nI klineMany), .int khasWritten, .ref knode, .int (nI knodes), .int (nI konesMany), .int (nI kwithin), .int (nI ktop)])), (kline, .inl (ky 0, 160, .inl klineG))]) (va_A [(o, .inr (12, [.int kthrown, .ref ktape, .int (nI ktaped), .int (nI ksize), .int (nI klimit), .int (nI kto), .int (nI kfrom), .int kkind, .int knumber, .int ksign, .int kfault, .int kplace, .long kword, .int ktold, .ref know, .ref kread, .ref kkept, .ref ksnaps, .ref kaside, .ref kname, .ref kreadName, .ref kkeptName, .ref kisKept, .ref konces, .int (nI ksnapMany), .int khasCells, .ref kpoured, .ref kfar, .ref ksides, .int (nI ksideMany), .int kwayDays, .int khasWay, .ref klines, .ref kmet, .int (nI kmetMany), .ref ksunk, .ref ktrying, .int (nI ksunkMany), .int ksending, .int kfleets, .ref ktext, .int (nI ktexts), .int kseed, .ref kline, .ref kwritten, .int (nI klineMany), .int khasWritten, .ref knode, .int (nI knodes), .int (nI konesMany), .int (nI kwithin), .int (nI ktop)])), (kline, .inl (ky 0, 160, .inl klineF))] sz)) (va_A [(o, .inr (12, [.int kthrown, .ref ktape, .int (nI ktaped), .int (nI ksize), .int (nI klimit), .int (nI kto), .int (nI kfrom), .int kkind, .int knumber, .int ksign, .int kfault, .int kplace, .long kword, .int ktold, .ref know, .ref kread, .ref kkept, .ref ksnaps, .ref kaside, .ref kname, .ref kreadName, .ref kkeptName, .ref kisKept, .ref konces, .int (nI ksnapMany), .int khasCells, .ref kpoured, .ref kfar, .ref ksides, .int (nI ksideMany), .int kwayDays, .int khasWay, .ref klines, .ref kmet, .int (nI kmetMany), .ref ksunk, .ref ktrying, .int (nI ksunkMany), .int ksending, .int kfleets, .ref ktext, .int (nI ktexts), .int kseed, .ref kline, .ref kwritten, .int (nI klineMany), .int khasWritten, .ref knode, .int (nI knodes), .int (nI konesMany), .int (nI kwithin), .int (nI ktop)])), (kline, .inl (ky 0, 160, .inl klineF))] sz)) 0 0 (va_A [(o, .inr (12, [.int kthrown, .ref ktape, .int (nI ktaped), .int (nI ksize), .int (nI klimit), .int (nI kto), .int (nI kfrom), .int kkind, .int knumber, .int ksign, .int kfault, .int kplace, .long kword, .int ktold, .ref know, .ref kread, .ref kkept, .ref ksnaps, .ref kaside, .ref kname, .ref kreadName, .ref kkeptName, .ref kisKept, .ref konces, .int (nI ksnapMany), .int khasCells, .ref kpoured, .ref kfar, .ref ksides, .int (nI ksideMany), .int kwayDays, .int khasWay, .ref klines, .ref kmet, .int (nI kmetMany), .ref ksunk, .ref ktrying, .int (nI ksunkMany), .int ksending, .int kfleets, .ref ktext, .int (nI ktexts), .int kseed, .ref kline, .ref kwritten, .int (nI klineMany), .int khasWritten, .ref knode, .int (nI knodes), .int (nI konesMany), .int (nI kwithin), .int (nI ktop)])), (kline, .inl (ky 0, 160, .inl klineF))] sz) := by
  refine Met.ofW (cc := cX12_keep) (maxL := 3) (ret := (some .boolean)) (by decide) rfl ?_
  intro p e s m args below meth c s₁ B hml hv
  obtain ⟨rfl, hsz, hP, hK, hD0⟩ := hv
  have hx := B.exec
  have hb := B.bytes
  have hr := B.returns
  have hts := atoms_spec (ws := wsX12_keep) B.pre
  have hown : s.vm.findClass RX12 = some m.cls := findClass_of_methodNamed B.named
  have hlocks := B.notSynchronized
  have hin12 : ∀ w ∈ u_ws RX12 TX12 52, w ∈ wsX12_keep := by decide +kernel
  subst hsz
  have hD := hD0.self (sz := s.heap.size)
  generalize hAe : va_A [(o, .inr (12, [.int kthrown, .ref ktape, .int (nI ktaped), .int (nI ksize), .int (nI klimit), .int (nI kto), .int (nI kfrom), .int kkind, .int knumber, .int ksign, .int kfault, .int kplace, .long kword, .int ktold, .ref know, .ref kread, .ref kkept, .ref ksnaps, .ref kaside, .ref kname, .ref kreadName, .ref kkeptName, .ref kisKept, .ref konces, .int (nI ksnapMany), .int khasCells, .ref kpoured, .ref kfar, .ref ksides, .int (nI ksideMany), .int kwayDays, .int khasWay, .ref klines, .ref kmet, .int (nI kmetMany), .ref ksunk, .ref ktrying, .int (nI ksunkMany), .int ksending, .int kfleets, .ref ktext, .int (nI ktexts), .int kseed, .ref kline, .ref kwritten, .int (nI klineMany), .int khasWritten, .ref knode, .int (nI knodes), .int (nI konesMany), .int (nI kwithin), .int (nI ktop)])), (kline, .inl (ky 0, 160, .inl klineF))] s.heap.size = A at hD ⊢
  have hA : ∀ q : Nat, s.heap.size ≤ q → A q := fun q h => by rw [← hAe]; exact Or.inr h
  have hS : va_S A s.heap s.heap [] := va_S.rf
  have hl := lv_entry ([.ref o, .int (nI aq), .int (nI 1)]) (n := 3) (Nat.le_of_ble_eq_true rfl)
  rw [lg_entry_eq]
  generalize (lg_sl ([.ref o, .int (nI aq), .int (nI 1)]) ++ List.replicate (3 - (lg_sl ([.ref o, .int (nI aq), .int (nI 1)])).length) Slot.unset).toArray = ls at hl ⊢
  have hl : lv_has ls 3 [(0, .ref o), (1, .int (nI aq)), (2, .int (nI 1))] := hl
  refine q_name (fun Q hQ => ?_)
  generalize ([.ref o, .int (nI aq), .int (nI 1)] : List Value).toArray = args at hts hQ ⊢
  refine lv_iload_n hx hb dX12_keep_0 rfl (lv_at hl 2 rfl) ?_
  refine lv_if_eq (tgt := 14) hx hb dX12_keep_1 (by decide) (fun c1 => absurd c1 (by decide)) (fun c1 => ?_)
  refine lv_aload_n hx hb dX12_keep_4 rfl (lv_at hl 0 rfl) ?_
  refine va_get (D := (dC, dI)) (ci := 12) (v := .ref kline) (C := RX12) (T := TX12) (N := 52) hx hb hts hin12 hown hK hP 0 rfl rfl 43 (by decide) (hts (.fieldLink RX12 163 "PorridgeSeaModel" "line" "[I") (List.mem_of_getElem? (i := 1) rfl)) (fun _ h9 => h9) rfl dX12_keep_5 ?_
  refine lv_iload_n hx hb dX12_keep_8 rfl (lv_at hl 1 rfl) ?_
  refine lv_aload_n hx hb dX12_keep_9 rfl (lv_at hl 0 rfl) ?_
  refine va_get (D := (dC, dI)) (ci := 12) (v := .int ktold) (C := RX12) (T := TX12) (N := 52) hx hb hts hin12 hown hK hP 0 rfl rfl 13 (by decide) (hts (.fieldLink RX12 79 "PorridgeSeaModel" "told" "I") (List.mem_of_getElem? (i := 2) rfl)) (fun _ h9 => h9) rfl dX12_keep_10 ?_
  refine r_iast (x := ktold) hx hb hK hP hD hS 1 rfl aq (lf_x_keep1_1 aq ha) (by decide) dX12_keep_13 (fun H locs hP hD hS => ?_)
  obtain ⟨g2, e3⟩ : ∃ z9, z9 = upd klineF aq ktold := ⟨_, rfl⟩
  rw [← e3] at hP hD
  have hP : va_P (dC, dI) vwCl [(o, .inr (12, [.int kthrown, .ref ktape, .int (nI ktaped), .int (nI ksize), .int (nI klimit), .int (nI kto), .int (nI kfrom), .int kkind, .int knumber, .int ksign, .int kfault, .int kplace, .long kword, .int ktold, .ref know, .ref kread, .ref kkept, .ref ksnaps, .ref kaside, .ref kname, .ref kreadName, .ref kkeptName, .ref kisKept, .ref konces, .int (nI ksnapMany), .int khasCells, .ref kpoured, .ref kfar, .ref ksides, .int (nI ksideMany), .int kwayDays, .int khasWay, .ref klines, .ref kmet, .int (nI kmetMany), .ref ksunk, .ref ktrying, .int (nI ksunkMany), .int ksending, .int kfleets, .ref ktext, .int (nI ktexts), .int kseed, .ref kline, .ref kwritten, .int (nI klineMany), .int khasWritten, .ref knode, .int (nI knodes), .int (nI konesMany), .int (nI kwithin), .int (nI ktop)])), (kline, .inl (ky 0, 160, .inl g2))] H := hP
  have hD : va_D A [(o, .inr (12, [.int kthrown, .ref ktape, .int (nI ktaped), .int (nI ksize), .int (nI klimit), .int (nI kto), .int (nI kfrom), .int kkind, .int knumber, .int ksign, .int kfault, .int kplace, .long kword, .int ktold, .ref know, .ref kread, .ref kkept, .ref ksnaps, .ref kaside, .ref kname, .ref kreadName, .ref kkeptName, .ref kisKept, .ref konces, .int (nI ksnapMany), .int khasCells, .ref kpoured, .ref kfar, .ref ksides, .int (nI ksideMany), .int kwayDays, .int khasWay, .ref klines, .ref kmet, .int (nI kmetMany), .ref ksunk, .ref ktrying, .int (nI ksunkMany), .int ksending, .int kfleets, .ref ktext, .int (nI ktexts), .int kseed, .ref kline, .ref kwritten, .int (nI klineMany), .int khasWritten, .ref knode, .int (nI knodes), .int (nI konesMany), .int (nI kwithin), .int (nI ktop)])), (kline, .inl (ky 0, 160, .inl g2))] := hD
  refine lv_iload_n hx hb dX12_keep_14 rfl (lv_at hl 2 rfl) ?_
  rw [hQ]
  exact W.zret (v := nI 1) hx hb hr (by decide) (fun t9 ht9 hW9 => ⟨⟨nI 1, g2, rfl, ⟨(lf_x_keep1_2), e3⟩, by rw [ht9]; exact hP, va_K.moved hW9.alike hK, hD⟩, hS.F ht9⟩) hS.2.2 dX12_keep_15
