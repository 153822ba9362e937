theorem dX1_draw_0 : decode cX1_draw 0 = .ok (.aload_n 0, 1) := by decide +kernel
theorem dX1_draw_1 : decode cX1_draw 1 = .ok (.aload_n 0, 1) := by decide +kernel
theorem dX1_draw_2 : decode cX1_draw 2 = .ok (.getfield 9, 3) := by decide +kernel
theorem dX1_draw_5 : decode cX1_draw 5 = .ok (.ldc 15, 2) := by decide +kernel
theorem dX1_draw_7 : decode cX1_draw 7 = .ok (.imul, 1) := by decide +kernel
theorem dX1_draw_8 : decode cX1_draw 8 = .ok (.sipush 12345, 3) := by decide +kernel
theorem dX1_draw_11 : decode cX1_draw 11 = .ok (.iadd, 1) := by decide +kernel
theorem dX1_draw_12 : decode cX1_draw 12 = .ok (.putfield 9, 3) := by decide +kernel
theorem dX1_draw_15 : decode cX1_draw 15 = .ok (.iload_n 1, 1) := by decide +kernel
theorem dX1_draw_16 : decode cX1_draw 16 = .ok (.ifCond .le 15, 3) := by decide +kernel
theorem dX1_draw_31 : decode cX1_draw 31 = .ok (.iconst 0, 1) := by decide +kernel
theorem dX1_draw_32 : decode cX1_draw 32 = .ok (.ireturn, 1) := by decide +kernel
theorem dX1_draw_19 : decode cX1_draw 19 = .ok (.aload_n 0, 1) := by decide +kernel
theorem dX1_draw_20 : decode cX1_draw 20 = .ok (.getfield 9, 3) := by decide +kernel
theorem dX1_draw_23 : decode cX1_draw 23 = .ok (.bipush 8, 2) := by decide +kernel
theorem dX1_draw_25 : decode cX1_draw 25 = .ok (.iushr, 1) := by decide +kernel
theorem dX1_draw_26 : decode cX1_draw 26 = .ok (.iload_n 1, 1) := by decide +kernel
theorem dX1_draw_27 : decode cX1_draw 27 = .ok (.irem, 1) := by decide +kernel
theorem dX1_draw_28 : decode cX1_draw 28 = .ok (.goto 4, 3) := by decide +kernel
theorem dX1_stirByDraw_0 : decode cX1_stirByDraw 0 = .ok (.aload_n 0, 1) := by decide +kernel
theorem dX1_stirByDraw_1 : decode cX1_stirByDraw 1 = .ok (.iconst 3, 1) := by decide +kernel
theorem dX1_stirByDraw_2 : decode cX1_stirByDraw 2 = .ok (.invokevirtual 38, 3) := by decide +kernel
theorem dX1_stirByDraw_5 : decode cX1_stirByDraw 5 = .ok (.ifCond .eq 4, 3) := by decide +kernel
theorem dX1_stirByDraw_9 : decode cX1_stirByDraw 9 = .ok (.aload_n 0, 1) := by decide +kernel
theorem dX1_stirByDraw_10 : decode cX1_stirByDraw 10 = .ok (.iconst 2, 1) := by decide +kernel
theorem dX1_stirByDraw_11 : decode cX1_stirByDraw 11 = .ok (.invokevirtual 38, 3) := by decide +kernel
theorem dX1_stirByDraw_14 : decode cX1_stirByDraw 14 = .ok (.istore_n 2, 1) := by decide +kernel
theorem dX1_stirByDraw_15 : decode cX1_stirByDraw 15 = .ok (.aload_n 0, 1) := by decide +kernel
theorem dX1_stirByDraw_16 : decode cX1_stirByDraw 16 = .ok (.iload_n 2, 1) := by decide +kernel
theorem dX1_stirByDraw_17 : decode cX1_stirByDraw 17 = .ok (.ifCond .ne 10, 3) := by decide +kernel
theorem dX1_stirByDraw_27 : decode cX1_stirByDraw 27 = .ok (.aload_n 1, 1) := by decide +kernel
theorem dX1_stirByDraw_28 : decode cX1_stirByDraw 28 = .ok (.getfield 45, 3) := by decide +kernel
theorem dX1_stirByDraw_20 : decode cX1_stirByDraw 20 = .ok (.aload_n 1, 1) := by decide +kernel
theorem dX1_stirByDraw_21 : decode cX1_stirByDraw 21 = .ok (.getfield 42, 3) := by decide +kernel
theorem dX1_stirByDraw_24 : decode cX1_stirByDraw 24 = .ok (.goto 7, 3) := by decide +kernel
theorem dX1_stirByDraw_31 : decode cX1_stirByDraw 31 = .ok (.invokevirtual 38, 3) := by decide +kernel
theorem dX1_stirByDraw_34 : decode cX1_stirByDraw 34 = .ok (.istore_n 3, 1) := by decide +kernel
theorem dX1_stirByDraw_35 : decode cX1_stirByDraw 35 = .ok (.aload_n 0, 1) := by decide +kernel
theorem dX1_stirByDraw_36 : decode cX1_stirByDraw 36 = .ok (.iconst 2, 1) := by decide +kernel
theorem dX1_stirByDraw_37 : decode cX1_stirByDraw 37 = .ok (.invokevirtual 38, 3) := by decide +kernel
theorem dX1_stirByDraw_40 : decode cX1_stirByDraw 40 = .ok (.istore 4, 2) := by decide +kernel
theorem dX1_stirByDraw_42 : decode cX1_stirByDraw 42 = .ok (.aload_n 1, 1) := by decide +kernel
theorem dX1_stirByDraw_43 : decode cX1_stirByDraw 43 = .ok (.iload_n 2, 1) := by decide +kernel
theorem dX1_stirByDraw_44 : decode cX1_stirByDraw 44 = .ok (.iload_n 3, 1) := by decide +kernel
theorem dX1_stirByDraw_45 : decode cX1_stirByDraw 45 = .ok (.iload 4, 2) := by decide +kernel
theorem dX1_stirByDraw_47 : decode cX1_stirByDraw 47 = .ok (.invokevirtual 48, 3) := by decide +kernel
theorem dX1_stirByDraw_50 : decode cX1_stirByDraw 50 = .ok (.ifCond .ne 11, 3) := by decide +kernel
theorem dX1_stirByDraw_61 : decode cX1_stirByDraw 61 = .ok (.return_, 1) := by decide +kernel
theorem dX1_stirByDraw_53 : decode cX1_stirByDraw 53 = .ok (.aload_n 1, 1) := by decide +kernel
theorem dX1_stirByDraw_54 : decode cX1_stirByDraw 54 = .ok (.iload_n 2, 1) := by decide +kernel
theorem dX1_stirByDraw_55 : decode cX1_stirByDraw 55 = .ok (.iload_n 3, 1) := by decide +kernel
theorem dX1_stirByDraw_56 : decode cX1_stirByDraw 56 = .ok (.iload 4, 2) := by decide +kernel
theorem dX1_stirByDraw_58 : decode cX1_stirByDraw 58 = .ok (.invokevirtual 52, 3) := by decide +kernel
theorem dX1_stirByDraw_8 : decode cX1_stirByDraw 8 = .ok (.return_, 1) := by decide +kernel
theorem dX1_rowByDraw_0 : decode cX1_rowByDraw 0 = .ok (.iconst 0, 1) := by decide +kernel
theorem dX1_rowByDraw_1 : decode cX1_rowByDraw 1 = .ok (.istore_n 2, 1) := by decide +kernel
theorem dX1_rowByDraw_2 : decode cX1_rowByDraw 2 = .ok (.iload_n 2, 1) := by decide +kernel
theorem dX1_rowByDraw_3 : decode cX1_rowByDraw 3 = .ok (.aload_n 1, 1) := by decide +kernel
theorem dX1_rowByDraw_4 : decode cX1_rowByDraw 4 = .ok (.getfield 56, 3) := by decide +kernel
theorem dX1_rowByDraw_7 : decode cX1_rowByDraw 7 = .ok (.if_icmp .ge 46, 3) := by decide +kernel
theorem dX1_rowByDraw_53 : decode cX1_rowByDraw 53 = .ok (.return_, 1) := by decide +kernel
theorem dX1_rowByDraw_10 : decode cX1_rowByDraw 10 = .ok (.aload_n 1, 1) := by decide +kernel
theorem dX1_rowByDraw_11 : decode cX1_rowByDraw 11 = .ok (.iload_n 2, 1) := by decide +kernel
theorem dX1_rowByDraw_12 : decode cX1_rowByDraw 12 = .ok (.invokevirtual 59, 3) := by decide +kernel
theorem dX1_rowByDraw_15 : decode cX1_rowByDraw 15 = .ok (.ifCond .eq 6, 3) := by decide +kernel
theorem dX1_rowByDraw_18 : decode cX1_rowByDraw 18 = .ok (.goto 29, 3) := by decide +kernel
theorem dX1_rowByDraw_47 : decode cX1_rowByDraw 47 = .ok (.iinc 2 1, 3) := by decide +kernel
theorem dX1_rowByDraw_50 : decode cX1_rowByDraw 50 = .ok (.goto (-48), 3) := by decide +kernel
theorem dX1_rowByDraw_21 : decode cX1_rowByDraw 21 = .ok (.aload_n 0, 1) := by decide +kernel
theorem dX1_rowByDraw_22 : decode cX1_rowByDraw 22 = .ok (.iconst 5, 1) := by decide +kernel
theorem dX1_rowByDraw_23 : decode cX1_rowByDraw 23 = .ok (.invokevirtual 38, 3) := by decide +kernel
theorem dX1_rowByDraw_26 : decode cX1_rowByDraw 26 = .ok (.istore_n 3, 1) := by decide +kernel
theorem dX1_rowByDraw_27 : decode cX1_rowByDraw 27 = .ok (.iload_n 3, 1) := by decide +kernel
theorem dX1_rowByDraw_28 : decode cX1_rowByDraw 28 = .ok (.iconst 4, 1) := by decide +kernel
theorem dX1_rowByDraw_29 : decode cX1_rowByDraw 29 = .ok (.if_icmp .ge 18, 3) := by decide +kernel
theorem dX1_rowByDraw_32 : decode cX1_rowByDraw 32 = .ok (.aload_n 1, 1) := by decide +kernel
theorem dX1_rowByDraw_33 : decode cX1_rowByDraw 33 = .ok (.iload_n 2, 1) := by decide +kernel
theorem dX1_rowByDraw_34 : decode cX1_rowByDraw 34 = .ok (.iload_n 3, 1) := by decide +kernel
theorem dX1_rowByDraw_35 : decode cX1_rowByDraw 35 = .ok (.invokevirtual 63, 3) := by decide +kernel
theorem dX1_rowByDraw_38 : decode cX1_rowByDraw 38 = .ok (.ifCond .ne 9, 3) := by decide +kernel
theorem dX1_rowByDraw_41 : decode cX1_rowByDraw 41 = .ok (.aload_n 1, 1) := by decide +kernel
theorem dX1_rowByDraw_42 : decode cX1_rowByDraw 42 = .ok (.iload_n 2, 1) := by decide +kernel
theorem dX1_rowByDraw_43 : decode cX1_rowByDraw 43 = .ok (.iload_n 3, 1) := by decide +kernel
theorem dX1_rowByDraw_44 : decode cX1_rowByDraw 44 = .ok (.invokevirtual 66, 3) := by decide +kernel
theorem dX1_passDays_0 : decode cX1_passDays 0 = .ok (.aload_n 0, 1) := by decide +kernel
theorem dX1_passDays_1 : decode cX1_passDays 1 = .ok (.iload_n 3, 1) := by decide +kernel
theorem dX1_passDays_2 : decode cX1_passDays 2 = .ok (.putfield 9, 3) := by decide +kernel
theorem dX1_passDays_5 : decode cX1_passDays 5 = .ok (.iload_n 2, 1) := by decide +kernel
theorem dX1_passDays_6 : decode cX1_passDays 6 = .ok (.aload_n 1, 1) := by decide +kernel
theorem dX1_passDays_7 : decode cX1_passDays 7 = .ok (.invokevirtual 16, 3) := by decide +kernel
theorem dX1_passDays_10 : decode cX1_passDays 10 = .ok (.invokestatic 22, 3) := by decide +kernel
theorem dX1_passDays_13 : decode cX1_passDays 13 = .ok (.istore 4, 2) := by decide +kernel
theorem dX1_passDays_15 : decode cX1_passDays 15 = .ok (.iconst 0, 1) := by decide +kernel
theorem dX1_passDays_16 : decode cX1_passDays 16 = .ok (.istore 5, 2) := by decide +kernel
theorem dX1_passDays_18 : decode cX1_passDays 18 = .ok (.iload 5, 2) := by decide +kernel
theorem dX1_passDays_20 : decode cX1_passDays 20 = .ok (.iload 4, 2) := by decide +kernel
theorem dX1_passDays_22 : decode cX1_passDays 22 = .ok (.if_icmp .ge 23, 3) := by decide +kernel
theorem dX1_passDays_45 : decode cX1_passDays 45 = .ok (.iload 4, 2) := by decide +kernel
theorem dX1_passDays_47 : decode cX1_passDays 47 = .ok (.ireturn, 1) := by decide +kernel
theorem dX1_passDays_25 : decode cX1_passDays 25 = .ok (.aload_n 0, 1) := by decide +kernel
theorem dX1_passDays_26 : decode cX1_passDays 26 = .ok (.aload_n 1, 1) := by decide +kernel
theorem dX1_passDays_27 : decode cX1_passDays 27 = .ok (.invokevirtual 28, 3) := by decide +kernel
theorem dX1_passDays_30 : decode cX1_passDays 30 = .ok (.aload_n 0, 1) := by decide +kernel
theorem dX1_passDays_31 : decode cX1_passDays 31 = .ok (.aload_n 1, 1) := by decide +kernel
theorem dX1_passDays_32 : decode cX1_passDays 32 = .ok (.invokevirtual 32, 3) := by decide +kernel
theorem dX1_passDays_35 : decode cX1_passDays 35 = .ok (.aload_n 1, 1) := by decide +kernel
theorem dX1_passDays_36 : decode cX1_passDays 36 = .ok (.invokevirtual 35, 3) := by decide +kernel
theorem dX1_passDays_39 : decode cX1_passDays 39 = .ok (.iinc 5 1, 3) := by decide +kernel
theorem dX1_passDays_42 : decode cX1_passDays 42 = .ok (.goto (-24), 3) := by decide +kernel
set_option maxRecDepth 100000 in
theorem ggX1_stirByDraw_X1_draw : GoodIn wsX1_stirByDraw wsX1_draw := goodIn_r _ [7, 8, 9, 76] rfl (by decide +kernel)
set_option maxRecDepth 100000 in
theorem ggX1_stirByDraw_X7_whyNotStirred : GoodIn wsX1_stirByDraw wsX7_whyNotStirred := goodIn_r _ [14, 15, 16, 17, 13, 18, 19, 20, 21, 22, 23, 24, 25, 26, 57, 58, 59, 60, 61, 62, 63, 64, 65, 66, 67, 68, 69, 70, 71, 72, 73, 74, 75] rfl (by decide +kernel)
set_option maxRecDepth 100000 in
theorem ggX1_stirByDraw_X7_stirLine : GoodIn wsX1_stirByDraw wsX7_stirLine := goodIn_r _ [30, 31, 32, 33, 34, 35, 15, 16, 17, 13, 18, 19, 20, 36, 37, 38, 39, 40, 41, 42, 43, 44, 45, 46, 47, 48, 49, 50, 51, 52, 53, 54, 55, 56, 57, 58, 59, 60, 61, 62, 63, 64, 65, 66, 67, 68, 69, 70, 71, 72, 73, 74, 75] rfl (by decide +kernel)
set_option maxRecDepth 100000 in
theorem ggX1_rowByDraw_X7_isEaten : GoodIn wsX1_rowByDraw wsX7_isEaten := goodIn_r _ [6, 7, 8, 9, 10, 5, 11, 12, 57, 58, 59, 60, 61, 62, 63, 64, 65, 66, 67, 68, 69, 70, 71, 72, 73, 74, 75] rfl (by decide +kernel)
set_option maxRecDepth 100000 in
theorem ggX1_rowByDraw_X1_draw : GoodIn wsX1_rowByDraw wsX1_draw := goodIn_r _ [17, 18, 19, 76] rfl (by decide +kernel)
set_option maxRecDepth 100000 in
theorem ggX1_rowByDraw_X7_whyNotRowed : GoodIn wsX1_rowByDraw wsX7_whyNotRowed := goodIn_r _ [23, 24, 25, 8, 9, 10, 5, 11, 12, 26, 3, 4, 6, 7, 27, 28, 29, 30, 31, 32, 33, 34, 35, 36, 37, 38, 39, 40, 41, 42, 43, 44, 45, 46, 47, 48, 49, 50, 51, 57, 58, 59, 60, 61, 62, 63, 64, 65, 66, 67, 68, 69, 70, 71, 72, 73, 74, 75] rfl (by decide +kernel)
set_option maxRecDepth 100000 in
theorem ggX1_rowByDraw_X7_rowBoat : GoodIn wsX1_rowByDraw wsX7_rowBoat := goodIn_r _ [55, 24, 25, 56, 8, 9, 10, 5, 11, 12, 27, 28, 29, 30, 31, 32, 33, 34, 35, 36, 37, 38, 39, 40, 41, 42, 43, 44, 45, 46, 47, 48, 49, 50, 51, 57, 58, 59, 60, 61, 62, 63, 64, 65, 66, 67, 68, 69, 70, 71, 72, 73, 74, 75] rfl (by decide +kernel)
set_option maxRecDepth 100000 in
theorem ggX1_passDays_X7_daysLeft : GoodIn wsX1_passDays wsX7_daysLeft := goodIn_r _ [10, 11, 125, 126, 127, 128, 129, 130, 131, 132, 133, 134, 135, 136, 137, 138, 139, 140, 141, 142, 143] rfl (by decide +kernel)
set_option maxRecDepth 100000 in
theorem ggX1_passDays_X1_stirByDraw : GoodIn wsX1_passDays wsX1_stirByDraw := goodIn_r _ [16, 17, 18, 19, 20, 21, 15, 22, 1, 23, 24, 25, 26, 9, 27, 28, 29, 30, 31, 32, 33, 34, 35, 36, 37, 38, 39, 40, 41, 42, 43, 44, 45, 46, 47, 48, 49, 50, 51, 52, 53, 54, 55, 56, 57, 58, 59, 60, 61, 62, 63, 64, 65, 66, 67, 68, 69, 125, 126, 127, 128, 129, 130, 131, 132, 133, 134, 135, 136, 137, 138, 139, 140, 141, 142, 143, 124] rfl (by decide +kernel)
set_option maxRecDepth 100000 in
theorem ggX1_passDays_X1_rowByDraw : GoodIn wsX1_passDays wsX1_rowByDraw := goodIn_r _ [73, 74, 75, 62, 63, 9, 64, 65, 66, 67, 68, 69, 46, 19, 20, 21, 15, 22, 1, 23, 76, 77, 78, 79, 47, 80, 61, 81, 82, 83, 84, 85, 86, 87, 88, 32, 33, 89, 90, 91, 92, 34, 35, 36, 37, 38, 39, 93, 94, 95, 96, 53, 97, 98, 99, 100, 101, 125, 126, 127, 128, 129, 130, 131, 132, 133, 134, 135, 136, 137, 138, 139, 140, 141, 142, 143, 124] rfl (by decide +kernel)
set_option maxRecDepth 100000 in
theorem ggX1_passDays_X7_passDay : GoodIn wsX1_passDays wsX7_passDay := goodIn_r _ [105, 46, 65, 80, 106, 38, 107, 108, 109, 4, 110, 11, 61, 62, 63, 9, 64, 66, 67, 68, 69, 111, 112, 113, 114, 47, 115, 116, 117, 118, 119, 34, 35, 36, 37, 39, 120, 121, 122, 123, 44, 45, 93, 94, 95, 96, 53, 125, 126, 127, 128, 129, 130, 131, 132, 133, 134, 135, 136, 137, 138, 139, 140, 141, 142, 143] rfl (by decide +kernel)
set_option maxRecDepth 100000 in
theorem gX1_stirByDraw_X1_draw : GoodIn wsX1_stirByDraw (wsV RX1 38 RX1 yX1_draw wsX1_draw) := goodIn_app (goodIn_of _ (by decide +kernel)) ggX1_stirByDraw_X1_draw
set_option maxRecDepth 100000 in
theorem gX1_stirByDraw_X7_whyNotStirred : GoodIn wsX1_stirByDraw (wsV RX1 48 RX7 yX7_whyNotStirred wsX7_whyNotStirred) := goodIn_app (goodIn_of _ (by decide +kernel)) ggX1_stirByDraw_X7_whyNotStirred
set_option maxRecDepth 100000 in
theorem gX1_stirByDraw_X7_stirLine : GoodIn wsX1_stirByDraw (wsV RX1 52 RX7 yX7_stirLine wsX7_stirLine) := goodIn_app (goodIn_of _ (by decide +kernel)) ggX1_stirByDraw_X7_stirLine
set_option maxRecDepth 100000 in
theorem gX1_rowByDraw_X7_isEaten : GoodIn wsX1_rowByDraw (wsV RX1 59 RX7 yX7_isEaten wsX7_isEaten) := goodIn_app (goodIn_of _ (by decide +kernel)) ggX1_rowByDraw_X7_isEaten
set_option maxRecDepth 100000 in
theorem gX1_rowByDraw_X1_draw : GoodIn wsX1_rowByDraw (wsV RX1 38 RX1 yX1_draw wsX1_draw) := goodIn_app (goodIn_of _ (by decide +kernel)) ggX1_rowByDraw_X1_draw
set_option maxRecDepth 100000 in
theorem gX1_rowByDraw_X7_whyNotRowed : GoodIn wsX1_rowByDraw (wsV RX1 63 RX7 yX7_whyNotRowed wsX7_whyNotRowed) := goodIn_app (goodIn_of _ (by decide +kernel)) ggX1_rowByDraw_X7_whyNotRowed
set_option maxRecDepth 100000 in
theorem gX1_rowByDraw_X7_rowBoat : GoodIn wsX1_rowByDraw (wsV RX1 66 RX7 yX7_rowBoat wsX7_rowBoat) := goodIn_app (goodIn_of _ (by decide +kernel)) ggX1_rowByDraw_X7_rowBoat
set_option maxRecDepth 100000 in
theorem gX1_passDays_X7_daysLeft : GoodIn wsX1_passDays (wsV RX1 16 RX7 yX7_daysLeft wsX7_daysLeft) := goodIn_app (goodIn_of _ (by decide +kernel)) ggX1_passDays_X7_daysLeft
set_option maxRecDepth 100000 in
theorem gX1_passDays_X1_stirByDraw : GoodIn wsX1_passDays (wsV RX1 28 RX1 yX1_stirByDraw wsX1_stirByDraw) := goodIn_app (goodIn_of _ (by decide +kernel)) ggX1_passDays_X1_stirByDraw
set_option maxRecDepth 100000 in
theorem gX1_passDays_X1_rowByDraw : GoodIn wsX1_passDays (wsV RX1 32 RX1 yX1_rowByDraw wsX1_rowByDraw) := goodIn_app (goodIn_of _ (by decide +kernel)) ggX1_passDays_X1_rowByDraw
set_option maxRecDepth 100000 in
theorem gX1_passDays_X7_passDay : GoodIn wsX1_passDays (wsV RX1 35 RX7 yX7_passDay wsX7_passDay) := goodIn_app (goodIn_of _ (by decide +kernel)) ggX1_passDays_X7_passDay
set_option maxRecDepth 20000 in
theorem lf_d_draw_1 (x : Int32) (c5 : ¬ x ≤ 0) : ¬ x = 0 := by
  have b_x := ia_b x
  try simp only [ia_lt, ia_le, ia_eq, ia_m1, ia_0, ia_1, ne_eq, true_and, and_true, false_and, and_false, or_false, false_or, or_true, true_or, not_true_eq_false, not_false_eq_true] at *
  all_goals omega
set_option maxHeartbeats 4000000 in
set_option maxRecDepth 100000 in
theorem c_d_draw (l : Launch) (dC : Nat → ClassId) (dI : Nat → Nat → Nat) (ky : Nat → ClassId) (sz : Nat) (dr : Nat) (dx : Int32) (x : Int32)  : Met l yX1_draw wsX1_draw ({ frames := 0, cells := 0, slots := 0, locals := 0 }) (PcU dC dI ky [.ref dr, .int x] [(dr, .inr (1, [.int dx]))] sz) (va_Qi (fun (r : Int32) (dxG : Int32) => True) (BU dC dI ky (fun (dxG : Int32) => [(dr, .inr (1, [.int dxG]))]) (va_A [(dr, .inr (1, [.int dx]))] sz)) (va_A [(dr, .inr (1, [.int dx]))] sz)) 0 0 (va_A [(dr, .inr (1, [.int dx]))] sz) := by
  refine Met.ofW (cc := cX1_draw) (maxL := 2) (ret := (some .int)) (by decide) rfl ?_
  intro p e s m args below meth c s₁ B hml hv
  obtain ⟨rfl, hsz, hP, hK, hD0⟩ := hv
  have hx := B.exec
  have hb := B.bytes
  have hr := B.returns
  have hts := atoms_spec (ws := wsX1_draw) B.pre
  have hown : s.vm.findClass RX1 = some m.cls := findClass_of_methodNamed B.named
  have hlocks := B.notSynchronized
  have hin1 : ∀ w ∈ u_ws RX1 TX1 1, w ∈ wsX1_draw := by decide +kernel
  subst hsz
  have hD := hD0.self (sz := s.heap.size)
  generalize hAe : va_A [(dr, .inr (1, [.int dx]))] s.heap.size = A at hD ⊢
  have hA : ∀ q : Nat, s.heap.size ≤ q → A q := fun q h => by rw [← hAe]; exact Or.inr h
  have hS : va_S A s.heap s.heap [] := va_S.rf
  have hl := lv_entry ([.ref dr, .int x]) (n := 2) (Nat.le_of_ble_eq_true rfl)
  rw [lg_entry_eq]
  generalize (lg_sl ([.ref dr, .int x]) ++ List.replicate (2 - (lg_sl ([.ref dr, .int x])).length) Slot.unset).toArray = ls at hl ⊢
  have hl : lv_has ls 2 [(0, .ref dr), (1, .int x)] := hl
  refine q_name (fun Q hQ => ?_)
  generalize ([.ref dr, .int x] : List Value).toArray = args at hts hQ ⊢
  refine lv_aload_n hx hb dX1_draw_0 rfl (lv_at hl 0 rfl) ?_
  refine lv_aload_n hx hb dX1_draw_1 rfl (lv_at hl 0 rfl) ?_
  refine va_get (D := (dC, dI)) (ci := 1) (v := .int dx) (C := RX1) (T := TX1) (N := 1) hx hb hts hin1 hown hK hP 0 rfl rfl 0 (by decide) (hts (.fieldLink RX1 9 "PorridgeSea$Draws" "x" "I") (List.mem_of_getElem? (i := 1) rfl)) (fun _ h9 => h9) rfl dX1_draw_2 ?_
  refine lv_ldc (v := nI 1103515245) hx hb hown (hts (.constant RX1 15 (nI 1103515245)) (List.mem_of_getElem? (i := 2) rfl)) dX1_draw_5 ?_
  refine lv_imul hx hb dX1_draw_7 ?_
  refine lv_topi (fun y1 e2 => ?_)
  refine lv_sipush (v := nI 12345) hx hb dX1_draw_8 (by decide) ?_
  refine lv_iadd hx hb dX1_draw_11 ?_
  refine lv_topi (fun y3 e4 => ?_)
  refine va_put (D := (dC, dI)) (ci := 1) (v := .int y3) (ty := .int) (C := RX1) (T := TX1) (N := 1) hx hb hts hin1 tyX1 tyX1_ok nmX1 hown hK hP hD hS 0 rfl rfl 0 (by decide) (hts (.fieldLink RX1 9 "PorridgeSea$Draws" "x" "I") (List.mem_of_getElem? (i := 1) rfl)) (fun _ h9 => h9) rfl (by decide +kernel) rfl rfl (Nat.le_of_ble_eq_true rfl) dX1_draw_12 (fun H locs hP hD hS => ?_)
  have hP : va_P (dC, dI) vwCl [(dr, .inr (1, [.int y3]))] H := hP
  have hD : va_D A [(dr, .inr (1, [.int y3]))] := hD
  refine lv_iload_n hx hb dX1_draw_15 rfl (lv_at hl 1 rfl) ?_
  refine lv_if_le (tgt := 31) hx hb dX1_draw_16 (by decide) (fun c5 => ?_) (fun c5 => ?_)
  · refine lv_iconst (v := nI 0) hx hb dX1_draw_31 (by decide) ?_
    rw [hQ]
    exact W.iret (v := nI 0) hx hb hr (fun t9 ht9 hW9 => ⟨⟨nI 0, y3, rfl, trivial, by rw [ht9]; exact hP, va_K.moved hW9.alike hK, hD⟩, hS.F ht9⟩) hS.2.2 dX1_draw_32
  · refine lv_aload_n hx hb dX1_draw_19 rfl (lv_at hl 0 rfl) ?_
    refine va_get (D := (dC, dI)) (ci := 1) (v := .int y3) (C := RX1) (T := TX1) (N := 1) hx hb hts hin1 hown hK hP 0 rfl rfl 0 (by decide) (hts (.fieldLink RX1 9 "PorridgeSea$Draws" "x" "I") (List.mem_of_getElem? (i := 1) rfl)) (fun _ h9 => h9) rfl dX1_draw_20 ?_
    refine lv_bipush (v := nI 8) hx hb dX1_draw_23 (by decide) ?_
    refine lv_iushr hx hb dX1_draw_25 rfl ?_
    refine lv_topi (fun y6 e7 => ?_)
    refine lv_iload_n hx hb dX1_draw_26 rfl (lv_at hl 1 rfl) ?_
    refine lv_irem hx hb dX1_draw_27 (lf_d_draw_1 x c5) ?_
    refine lv_topi (fun y8 e9 => ?_)
    refine lv_goto (tgt := 32) hx hb dX1_draw_28 (by decide) ?_
    rw [hQ]
    exact W.iret (v := y8) hx hb hr (fun t9 ht9 hW9 => ⟨⟨y8, y3, rfl, trivial, by rw [ht9]; exact hP, va_K.moved hW9.alike hK, hD⟩, hS.F ht9⟩) hS.2.2 dX1_draw_32
set_option maxRecDepth 20000 in
theorem lf_d_stirByDraw_1 (wide : Nat) (iv_a_0 : 2 ≤ wide) (iv_a_1 : wide ≤ 6) : 0 ≤ (nI wide).toInt := by
  try have k_0 := ia_n wide (by first | decide | omega)
  try simp only [ia_lt, ia_le, ia_eq, ia_m1, ia_0, ia_1, ne_eq, true_and, and_true, false_and, and_false, or_false, false_or, or_true, true_or, not_true_eq_false, not_false_eq_true] at *
  all_goals omega
set_option maxRecDepth 20000 in
theorem lf_d_stirByDraw_2 (wide : Nat) (iv_a_0 : 2 ≤ wide) (iv_a_1 : wide ≤ 6) : (nI wide).toInt ≤ 6 := by
  try have k_0 := ia_n wide (by first | decide | omega)
  try simp only [ia_lt, ia_le, ia_eq, ia_m1, ia_0, ia_1, ne_eq, true_and, and_true, false_and, and_false, or_false, false_or, or_true, true_or, not_true_eq_false, not_false_eq_true] at *
  all_goals omega
set_option maxRecDepth 20000 in
theorem lf_d_stirByDraw_3 (high : Nat) (iv_a_2 : 2 ≤ high) (iv_a_3 : high ≤ 6) : 0 ≤ (nI high).toInt := by
  try have k_0 := ia_n high (by first | decide | omega)
  try simp only [ia_lt, ia_le, ia_eq, ia_m1, ia_0, ia_1, ne_eq, true_and, and_true, false_and, and_false, or_false, false_or, or_true, true_or, not_true_eq_false, not_false_eq_true] at *
  all_goals omega
set_option maxRecDepth 20000 in
theorem lf_d_stirByDraw_4 (high : Nat) (iv_a_2 : 2 ≤ high) (iv_a_3 : high ≤ 6) : (nI high).toInt ≤ 6 := by
  try have k_0 := ia_n high (by first | decide | omega)
  try simp only [ia_lt, ia_le, ia_eq, ia_m1, ia_0, ia_1, ne_eq, true_and, and_true, false_and, and_false, or_false, false_or, or_true, true_or, not_true_eq_false, not_false_eq_true] at *
  all_goals omega
set_option maxHeartbeats 4000000 in
set_option maxRecDepth 100000 in
theorem c_d_stirByDraw (l : Launch) (dC : Nat → ClassId) (dI : Nat → Nat → Nat) (ky : Nat → ClassId) (sz : Nat) (dr : Nat) (dx : Int32) (a : Nat) (wide : Nat) (high : Nat) (heat : Int32) (cools : Int32) (skinHeat : Int32) (today : Int32) (stirs : Int32) (steps : Int32) (lumps : Nat) (boats : Nat) (thickness : Nat) (lumpNames : Nat) (lumpCells : Nat) (boatNames : Nat) (boatCells : Nat) (loads : Nat) (spoons : Nat) (spoonsLeft : Nat) (depths : Nat) (thicknessF : Nat → Int32) (lumpCellsF : Nat → Int32) (boatCellsF : Nat → Int32) (depthsF : Nat → Int32) (iv_a_0 : 2 ≤ wide) (iv_a_1 : wide ≤ 6) (iv_a_2 : 2 ≤ high) (iv_a_3 : high ≤ 6) (iv_a_4 : lumps ≤ 6) (iv_a_5 : boats ≤ 6) : Met l yX1_stirByDraw wsX1_stirByDraw ({ frames := 3, cells := 0, slots := 0, locals := 72 }) (PcU dC dI ky [.ref dr, .ref a] [(dr, .inr (1, [.int dx])), (a, .inr (7, [.int (nI wide), .int (nI high), .int heat, .int cools, .int skinHeat, .int today, .int stirs, .int steps, .int (nI lumps), .int (nI boats), .ref thickness, .ref lumpNames, .ref lumpCells, .ref boatNames, .ref boatCells, .ref loads, .ref spoons, .ref spoonsLeft, .ref depths])), (thickness, .inl (ky 0, 36, .inl thicknessF)), (lumpCells, .inl (ky 0, 6, .inl lumpCellsF)), (boatCells, .inl (ky 0, 6, .inl boatCellsF)), (depths, .inl (ky 0, 6, .inl depthsF))] sz) (va_Qv (fun (u : Int32 × Int32 × (Nat → Int32) × (Nat → Int32) × (Nat → Int32)) => match u with | (dxG, stirsG, thicknessG, lumpCellsG, boatCellsG) => True) (BU dC dI ky (fun (u : Int32 × Int32 × (Nat → Int32) × (Nat → Int32) × (Nat → Int32)) => match u with | (dxG, stirsG, thicknessG, lumpCellsG, boatCellsG) => [(dr, .inr (1, [.int dxG])), (a, .inr (7, [.int (nI wide), .int (nI high), .int heat, .int cools, .int skinHeat, .int today, .int stirsG, .int steps, .int (nI lumps), .int (nI boats), .ref thickness, .ref lumpNames, .ref lumpCells, .ref boatNames, .ref boatCells, .ref loads, .ref spoons, .ref spoonsLeft, .ref depths])), (thickness, .inl (ky 0, 36, .inl thicknessG)), (lumpCells, .inl (ky 0, 6, .inl lumpCellsG)), (boatCells, .inl (ky 0, 6, .inl boatCellsG)), (depths, .inl (ky 0, 6, .inl depthsF))]) (va_A [(dr, .inr (1, [.int dx])), (a, .inr (7, [.int (nI wide), .int (nI high), .int heat, .int cools, .int skinHeat, .int today, .int stirs, .int steps, .int (nI lumps), .int (nI boats), .ref thickness, .ref lumpNames, .ref lumpCells, .ref boatNames, .ref boatCells, .ref loads, .ref spoons, .ref spoonsLeft, .ref depths])), (thickness, .inl (ky 0, 36, .inl thicknessF)), (lumpCells, .inl (ky 0, 6, .inl lumpCellsF)), (boatCells, .inl (ky 0, 6, .inl boatCellsF)), (depths, .inl (ky 0, 6, .inl depthsF))] sz)) (va_A [(dr, .inr (1, [.int dx])), (a, .inr (7, [.int (nI wide), .int (nI high), .int heat, .int cools, .int skinHeat, .int today, .int stirs, .int steps, .int (nI lumps), .int (nI boats), .ref thickness, .ref lumpNames, .ref lumpCells, .ref boatNames, .ref boatCells, .ref loads, .ref spoons, .ref spoonsLeft, .ref depths])), (thickness, .inl (ky 0, 36, .inl thicknessF)), (lumpCells, .inl (ky 0, 6, .inl lumpCellsF)), (boatCells, .inl (ky 0, 6, .inl boatCellsF)), (depths, .inl (ky 0, 6, .inl depthsF))] sz)) 0 0 (va_A [(dr, .inr (1, [.int dx])), (a, .inr (7, [.int (nI wide), .int (nI high), .int heat, .int cools, .int skinHeat, .int today, .int stirs, .int steps, .int (nI lumps), .int (nI boats), .ref thickness, .ref lumpNames, .ref lumpCells, .ref boatNames, .ref boatCells, .ref loads, .ref spoons, .ref spoonsLeft, .ref depths])), (thickness, .inl (ky 0, 36, .inl thicknessF)), (lumpCells, .inl (ky 0, 6, .inl lumpCellsF)), (boatCells, .inl (ky 0, 6, .inl boatCellsF)), (depths, .inl (ky 0, 6, .inl depthsF))] sz) := by
  refine Met.ofW (cc := cX1_stirByDraw) (maxL := 5) (ret := none) (by decide) rfl ?_
  intro p e s m args below meth c s₁ B hml hv
  obtain ⟨rfl, hsz, hP, hK, hD0⟩ := hv
  have hx := B.exec
  have hb := B.bytes
  have hr := B.returns
  have hts := atoms_spec (ws := wsX1_stirByDraw) B.pre
  have hown : s.vm.findClass RX1 = some m.cls := findClass_of_methodNamed B.named
  have hlocks := B.notSynchronized
  have hin7 : ∀ w ∈ u_ws RX7 TX7 19, w ∈ wsX1_stirByDraw := by decide +kernel
  subst hsz
  have hD := hD0.self (sz := s.heap.size)
  generalize hAe : va_A [(dr, .inr (1, [.int dx])), (a, .inr (7, [.int (nI wide), .int (nI high), .int heat, .int cools, .int skinHeat, .int today, .int stirs, .int steps, .int (nI lumps), .int (nI boats), .ref thickness, .ref lumpNames, .ref lumpCells, .ref boatNames, .ref boatCells, .ref loads, .ref spoons, .ref spoonsLeft, .ref depths])), (thickness, .inl (ky 0, 36, .inl thicknessF)), (lumpCells, .inl (ky 0, 6, .inl lumpCellsF)), (boatCells, .inl (ky 0, 6, .inl boatCellsF)), (depths, .inl (ky 0, 6, .inl depthsF))] s.heap.size = A at hD ⊢
  have hA : ∀ q : Nat, s.heap.size ≤ q → A q := fun q h => by rw [← hAe]; exact Or.inr h
  have hS : va_S A s.heap s.heap [] := va_S.rf
  have hl := lv_entry ([.ref dr, .ref a]) (n := 5) (Nat.le_of_ble_eq_true rfl)
  rw [lg_entry_eq]
  generalize (lg_sl ([.ref dr, .ref a]) ++ List.replicate (5 - (lg_sl ([.ref dr, .ref a])).length) Slot.unset).toArray = ls at hl ⊢
  have hl : lv_has ls 5 [(0, .ref dr), (1, .ref a)] := hl
  refine q_name (fun Q hQ => ?_)
  generalize ([.ref dr, .ref a] : List Value).toArray = args at hts hQ ⊢
  refine lv_aload_n hx hb dX1_stirByDraw_0 rfl (lv_at hl 0 rfl) ?_
  refine lv_iconst (v := nI 3) hx hb dX1_stirByDraw_1 (by decide) ?_
  refine r_call_i (wr := [(a, .inr (7, [.int (nI wide), .int (nI high), .int heat, .int cools, .int skinHeat, .int today, .int stirs, .int steps, .int (nI lumps), .int (nI boats), .ref thickness, .ref lumpNames, .ref lumpCells, .ref boatNames, .ref boatCells, .ref loads, .ref spoons, .ref spoonsLeft, .ref depths])), (thickness, .inl (ky 0, 36, .inl thicknessF)), (lumpCells, .inl (ky 0, 6, .inl lumpCellsF)), (boatCells, .inl (ky 0, 6, .inl boatCellsF)), (depths, .inl (ky 0, 6, .inl depthsF))]) (va_runV (As := [.int (nI 3)]) (rest := []) ⟨hx, hb, hml, hown, hts⟩ (c_d_draw l dC dI ky s.heap.size dr dx (nI 3)) (cwV 1 hts gX1_stirByDraw_X1_draw rfl rfl rfl (by decide +kernel) ⟨(Nat.le_of_ble_eq_true rfl), (Nat.le_of_ble_eq_true rfl)⟩) (pre_UV hK hP hD [0] (by decide) rfl (ci := 1) (q0 := 0) rfl rfl) rfl rfl hl.1 rfl (lv_room (Nat.le_of_ble_eq_true rfl)) dX1_stirByDraw_2 ⟨(Nat.le_of_ble_eq_true rfl), (Nat.le_of_ble_eq_true rfl)⟩) hP hD hS hA [0] [1, 2, 3, 4, 5] rfl rfl (by decide) (by decide) (fun r3 u1 H locs p2 hP hD hS => ?_)
  obtain ⟨dxG_4, rfl⟩ : ∃ z, z = u1 := ⟨_, rfl⟩
  refine W.widen (k := 0) (n := 0) (Nat.le_of_ble_eq_true rfl) (Nat.le_of_ble_eq_true rfl) ?_
  have hP : va_P (dC, dI) vwCl [(a, .inr (7, [.int (nI wide), .int (nI high), .int heat, .int cools, .int skinHeat, .int today, .int stirs, .int steps, .int (nI lumps), .int (nI boats), .ref thickness, .ref lumpNames, .ref lumpCells, .ref boatNames, .ref boatCells, .ref loads, .ref spoons, .ref spoonsLeft, .ref depths])), (thickness, .inl (ky 0, 36, .inl thicknessF)), (lumpCells, .inl (ky 0, 6, .inl lumpCellsF)), (boatCells, .inl (ky 0, 6, .inl boatCellsF)), (depths, .inl (ky 0, 6, .inl depthsF)), (dr, .inr (1, [.int dxG_4]))] H := hP
  have hD : va_D A [(a, .inr (7, [.int (nI wide), .int (nI high), .int heat, .int cools, .int skinHeat, .int today, .int stirs, .int steps, .int (nI lumps), .int (nI boats), .ref thickness, .ref lumpNames, .ref lumpCells, .ref boatNames, .ref boatCells, .ref loads, .ref spoons, .ref spoonsLeft, .ref depths])), (thickness, .inl (ky 0, 36, .inl thicknessF)), (lumpCells, .inl (ky 0, 6, .inl lumpCellsF)), (boatCells, .inl (ky 0, 6, .inl boatCellsF)), (depths, .inl (ky 0, 6, .inl depthsF)), (dr, .inr (1, [.int dxG_4]))] := hD
  refine lv_if_eq (tgt := 9) hx hb dX1_stirByDraw_5 (by decide) (fun c5 => ?_) (fun c5 => ?_)
  · refine lv_aload_n hx hb dX1_stirByDraw_9 rfl (lv_at hl 0 rfl) ?_
    refine lv_iconst (v := nI 2) hx hb dX1_stirByDraw_10 (by decide) ?_
    refine r_call_i (wr := [(a, .inr (7, [.int (nI wide), .int (nI high), .int heat, .int cools, .int skinHeat, .int today, .int stirs, .int steps, .int (nI lumps), .int (nI boats), .ref thickness, .ref lumpNames, .ref lumpCells, .ref boatNames, .ref boatCells, .ref loads, .ref spoons, .ref spoonsLeft, .ref depths])), (thickness, .inl (ky 0, 36, .inl thicknessF)), (lumpCells, .inl (ky 0, 6, .inl lumpCellsF)), (boatCells, .inl (ky 0, 6, .inl boatCellsF)), (depths, .inl (ky 0, 6, .inl depthsF))]) (va_runV (As := [.int (nI 2)]) (rest := []) ⟨hx, hb, hml, hown, hts⟩ (c_d_draw l dC dI ky H.size dr dxG_4 (nI 2)) (cwV 1 hts gX1_stirByDraw_X1_draw rfl rfl rfl (by decide +kernel) ⟨(Nat.le_of_ble_eq_true rfl), (Nat.le_of_ble_eq_true rfl)⟩) (pre_UV hK hP hD [5] (by decide) rfl (ci := 1) (q0 := 5) rfl rfl) rfl rfl hl.1 rfl (lv_room (Nat.le_of_ble_eq_true rfl)) dX1_stirByDraw_11 ⟨(Nat.le_of_ble_eq_true rfl), (Nat.le_of_ble_eq_true rfl)⟩) hP hD hS hA [5] [0, 1, 2, 3, 4] rfl rfl (by decide) (by decide) (fun r8 u6 H locs p7 hP hD hS => ?_)
    obtain ⟨dxG_9, rfl⟩ : ∃ z, z = u6 := ⟨_, rfl⟩
    refine W.widen (k := 0) (n := 0) (Nat.le_of_ble_eq_true rfl) (Nat.le_of_ble_eq_true rfl) ?_
    have hP : va_P (dC, dI) vwCl [(a, .inr (7, [.int (nI wide), .int (nI high), .int heat, .int cools, .int skinHeat, .int today, .int stirs, .int steps, .int (nI lumps), .int (nI boats), .ref thickness, .ref lumpNames, .ref lumpCells, .ref boatNames, .ref boatCells, .ref loads, .ref spoons, .ref spoonsLeft, .ref depths])), (thickness, .inl (ky 0, 36, .inl thicknessF)), (lumpCells, .inl (ky 0, 6, .inl lumpCellsF)), (boatCells, .inl (ky 0, 6, .inl boatCellsF)), (depths, .inl (ky 0, 6, .inl depthsF)), (dr, .inr (1, [.int dxG_9]))] H := hP
    have hD : va_D A [(a, .inr (7, [.int (nI wide), .int (nI high), .int heat, .int cools, .int skinHeat, .int today, .int stirs, .int steps, .int (nI lumps), .int (nI boats), .ref thickness, .ref lumpNames, .ref lumpCells, .ref boatNames, .ref boatCells, .ref loads, .ref spoons, .ref spoonsLeft, .ref depths])), (thickness, .inl (ky 0, 36, .inl thicknessF)), (lumpCells, .inl (ky 0, 6, .inl lumpCellsF)), (boatCells, .inl (ky 0, 6, .inl boatCellsF)), (depths, .inl (ky 0, 6, .inl depthsF)), (dr, .inr (1, [.int dxG_9]))] := hD
    refine lv_istore_n (lv' := [(2, .int r8), (0, .ref dr), (1, .ref a)]) hx hb dX1_stirByDraw_14 rfl hl (by decide) rfl (fun ls hl => ?_)
    refine lv_aload_n hx hb dX1_stirByDraw_15 rfl (lv_at hl 1 rfl) ?_
    refine lv_iload_n hx hb dX1_stirByDraw_16 rfl (lv_at hl 0 rfl) ?_
    have hJ14 : ∀ (x11 : Int32), (0 ≤ x11.toInt) → (x11.toInt ≤ 6) → ∀ (H : Heap) (locs : List Loc) (ls : Array Slot), va_P (dC, dI) vwCl [(a, .inr (7, [.int (nI wide), .int (nI high), .int heat, .int cools, .int skinHeat, .int today, .int stirs, .int steps, .int (nI lumps), .int (nI boats), .ref thickness, .ref lumpNames, .ref lumpCells, .ref boatNames, .ref boatCells, .ref loads, .ref spoons, .ref spoonsLeft, .ref depths])), (thickness, .inl (ky 0, 36, .inl thicknessF)), (lumpCells, .inl (ky 0, 6, .inl lumpCellsF)), (boatCells, .inl (ky 0, 6, .inl boatCellsF)), (depths, .inl (ky 0, 6, .inl depthsF)), (dr, .inr (1, [.int dxG_9]))] H → va_D A [(a, .inr (7, [.int (nI wide), .int (nI high), .int heat, .int cools, .int skinHeat, .int today, .int stirs, .int steps, .int (nI lumps), .int (nI boats), .ref thickness, .ref lumpNames, .ref lumpCells, .ref boatNames, .ref boatCells, .ref loads, .ref spoons, .ref spoonsLeft, .ref depths])), (thickness, .inl (ky 0, 36, .inl thicknessF)), (lumpCells, .inl (ky 0, 6, .inl lumpCellsF)), (boatCells, .inl (ky 0, 6, .inl boatCellsF)), (depths, .inl (ky 0, 6, .inl depthsF)), (dr, .inr (1, [.int dxG_9]))] → va_S A s.heap H locs → lv_has ls 5 [(2, .int r8), (0, .ref dr), (1, .ref a)] → W p l e (headSpec wsX1_stirByDraw ({ frames := 3, cells := 0, slots := 0, locals := 72 })).room s m args below meth c H locs 0 0 Q (F0 m 31 ls [.int x11, .ref dr]) := by
      intro x11 j12 j13 H locs ls hP hD hS hl
      refine r_call_i (wr := [(a, .inr (7, [.int (nI wide), .int (nI high), .int heat, .int cools, .int skinHeat, .int today, .int stirs, .int steps, .int (nI lumps), .int (nI boats), .ref thickness, .ref lumpNames, .ref lumpCells, .ref boatNames, .ref boatCells, .ref loads, .ref spoons, .ref spoonsLeft, .ref depths])), (thickness, .inl (ky 0, 36, .inl thicknessF)), (lumpCells, .inl (ky 0, 6, .inl lumpCellsF)), (boatCells, .inl (ky 0, 6, .inl boatCellsF)), (depths, .inl (ky 0, 6, .inl depthsF))]) (va_runV (As := [.int x11]) (rest := []) ⟨hx, hb, hml, hown, hts⟩ (c_d_draw l dC dI ky H.size dr dxG_9 x11) (cwV 1 hts gX1_stirByDraw_X1_draw rfl rfl rfl (by decide +kernel) ⟨(Nat.le_of_ble_eq_true rfl), (Nat.le_of_ble_eq_true rfl)⟩) (pre_UV hK hP hD [5] (by decide) rfl (ci := 1) (q0 := 5) rfl rfl) rfl rfl hl.1 rfl (lv_room (Nat.le_of_ble_eq_true rfl)) dX1_stirByDraw_31 ⟨(Nat.le_of_ble_eq_true rfl), (Nat.le_of_ble_eq_true rfl)⟩) hP hD hS hA [5] [0, 1, 2, 3, 4] rfl rfl (by decide) (by decide) (fun r17 u15 H locs p16 hP hD hS => ?_)
      obtain ⟨dxG_18, rfl⟩ : ∃ z, z = u15 := ⟨_, rfl⟩
      refine W.widen (k := 0) (n := 0) (Nat.le_of_ble_eq_true rfl) (Nat.le_of_ble_eq_true rfl) ?_
      have hP : va_P (dC, dI) vwCl [(a, .inr (7, [.int (nI wide), .int (nI high), .int heat, .int cools, .int skinHeat, .int today, .int stirs, .int steps, .int (nI lumps), .int (nI boats), .ref thickness, .ref lumpNames, .ref lumpCells, .ref boatNames, .ref boatCells, .ref loads, .ref spoons, .ref spoonsLeft, .ref depths])), (thickness, .inl (ky 0, 36, .inl thicknessF)), (lumpCells, .inl (ky 0, 6, .inl lumpCellsF)), (boatCells, .inl (ky 0, 6, .inl boatCellsF)), (depths, .inl (ky 0, 6, .inl depthsF)), (dr, .inr (1, [.int dxG_18]))] H := hP
      have hD : va_D A [(a, .inr (7, [.int (nI wide), .int (nI high), .int heat, .int cools, .int skinHeat, .int today, .int stirs, .int steps, .int (nI lumps), .int (nI boats), .ref thickness, .ref lumpNames, .ref lumpCells, .ref boatNames, .ref boatCells, .ref loads, .ref spoons, .ref spoonsLeft, .ref depths])), (thickness, .inl (ky 0, 36, .inl thicknessF)), (lumpCells, .inl (ky 0, 6, .inl lumpCellsF)), (boatCells, .inl (ky 0, 6, .inl boatCellsF)), (depths, .inl (ky 0, 6, .inl depthsF)), (dr, .inr (1, [.int dxG_18]))] := hD
      refine lv_istore_n (lv' := [(3, .int r17), (2, .int r8), (0, .ref dr), (1, .ref a)]) hx hb dX1_stirByDraw_34 rfl hl (by decide) rfl (fun ls hl => ?_)
      refine lv_aload_n hx hb dX1_stirByDraw_35 rfl (lv_at hl 2 rfl) ?_
      refine lv_iconst (v := nI 2) hx hb dX1_stirByDraw_36 (by decide) ?_
      refine r_call_i (wr := [(a, .inr (7, [.int (nI wide), .int (nI high), .int heat, .int cools, .int skinHeat, .int today, .int stirs, .int steps, .int (nI lumps), .int (nI boats), .ref thickness, .ref lumpNames, .ref lumpCells, .ref boatNames, .ref boatCells, .ref loads, .ref spoons, .ref spoonsLeft, .ref depths])), (thickness, .inl (ky 0, 36, .inl thicknessF)), (lumpCells, .inl (ky 0, 6, .inl lumpCellsF)), (boatCells, .inl (ky 0, 6, .inl boatCellsF)), (depths, .inl (ky 0, 6, .inl depthsF))]) (va_runV (As := [.int (nI 2)]) (rest := []) ⟨hx, hb, hml, hown, hts⟩ (c_d_draw l dC dI ky H.size dr dxG_18 (nI 2)) (cwV 1 hts gX1_stirByDraw_X1_draw rfl rfl rfl (by decide +kernel) ⟨(Nat.le_of_ble_eq_true rfl), (Nat.le_of_ble_eq_true rfl)⟩) (pre_UV hK hP hD [5] (by decide) rfl (ci := 1) (q0 := 5) rfl rfl) rfl rfl hl.1 rfl (lv_room (Nat.le_of_ble_eq_true rfl)) dX1_stirByDraw_37 ⟨(Nat.le_of_ble_eq_true rfl), (Nat.le_of_ble_eq_true rfl)⟩) hP hD hS hA [5] [0, 1, 2, 3, 4] rfl rfl (by decide) (by decide) (fun r21 u19 H locs p20 hP hD hS => ?_)
      obtain ⟨dxG_22, rfl⟩ : ∃ z, z = u19 := ⟨_, rfl⟩
      refine W.widen (k := 0) (n := 0) (Nat.le_of_ble_eq_true rfl) (Nat.le_of_ble_eq_true rfl) ?_
      have hP : va_P (dC, dI) vwCl [(a, .inr (7, [.int (nI wide), .int (nI high), .int heat, .int cools, .int skinHeat, .int today, .int stirs, .int steps, .int (nI lumps), .int (nI boats), .ref thickness, .ref lumpNames, .ref lumpCells, .ref boatNames, .ref boatCells, .ref loads, .ref spoons, .ref spoonsLeft, .ref depths])), (thickness, .inl (ky 0, 36, .inl thicknessF)), (lumpCells, .inl (ky 0, 6, .inl lumpCellsF)), (boatCells, .inl (ky 0, 6, .inl boatCellsF)), (depths, .inl (ky 0, 6, .inl depthsF)), (dr, .inr (1, [.int dxG_22]))] H := hP
      have hD : va_D A [(a, .inr (7, [.int (nI wide), .int (nI high), .int heat, .int cools, .int skinHeat, .int today, .int stirs, .int steps, .int (nI lumps), .int (nI boats), .ref thickness, .ref lumpNames, .ref lumpCells, .ref boatNames, .ref boatCells, .ref loads, .ref spoons, .ref spoonsLeft, .ref depths])), (thickness, .inl (ky 0, 36, .inl thicknessF)), (lumpCells, .inl (ky 0, 6, .inl lumpCellsF)), (boatCells, .inl (ky 0, 6, .inl boatCellsF)), (depths, .inl (ky 0, 6, .inl depthsF)), (dr, .inr (1, [.int dxG_22]))] := hD
      refine lv_istore (lv' := [(4, .int r21), (3, .int r17), (2, .int r8), (0, .ref dr), (1, .ref a)]) hx hb dX1_stirByDraw_40 hl (by decide) rfl (fun ls hl => ?_)
      refine lv_aload_n hx hb dX1_stirByDraw_42 rfl (lv_at hl 4 rfl) ?_
      refine lv_iload_n hx hb dX1_stirByDraw_43 rfl (lv_at hl 2 rfl) ?_
      refine lv_iload_n hx hb dX1_stirByDraw_44 rfl (lv_at hl 1 rfl) ?_
      refine lv_iload hx hb dX1_stirByDraw_45 (lv_at hl 0 rfl) ?_
      refine vp_callSi (W.runV (As := [.int r8, .int r17, .int r21]) (rest := []) ⟨hx, hb, hml, hown, hts⟩ (c_s_whyNotStirred l dC dI ky a wide high heat cools skinHeat today stirs steps lumps boats thickness lumpNames lumpCells boatNames boatCells loads spoons spoonsLeft depths r8 r17 r21 iv_a_0 iv_a_1 iv_a_2 iv_a_3 iv_a_4 iv_a_5) (cwV 3 hts gX1_stirByDraw_X7_whyNotStirred rfl rfl rfl (by decide +kernel) ⟨(Nat.le_of_ble_eq_true rfl), (Nat.le_of_ble_eq_true rfl)⟩) (pre_PV hK hP [0] rfl (ci := 7) (q0 := 0) rfl rfl) rfl rfl hl.1 rfl (lv_room (Nat.le_of_ble_eq_true rfl)) dX1_stirByDraw_47 ⟨(Nat.le_of_ble_eq_true rfl), (Nat.le_of_ble_eq_true rfl)⟩) (fun r23 p24 => ?_)
      refine lv_if_ne (tgt := 61) hx hb dX1_stirByDraw_50 (by decide) (fun c25 => ?_) (fun c25 => ?_)
      · rw [hQ]
        have hP9 := hP.sub (ws' := [(dr, .inr (1, [.int dxG_22])), (a, .inr (7, [.int (nI wide), .int (nI high), .int heat, .int cools, .int skinHeat, .int today, .int stirs, .int steps, .int (nI lumps), .int (nI boats), .ref thickness, .ref lumpNames, .ref lumpCells, .ref boatNames, .ref boatCells, .ref loads, .ref spoons, .ref spoonsLeft, .ref depths])), (thickness, .inl (ky 0, 36, .inl thicknessF)), (lumpCells, .inl (ky 0, 6, .inl lumpCellsF)), (boatCells, .inl (ky 0, 6, .inl boatCellsF)), (depths, .inl (ky 0, 6, .inl depthsF))]) [5, 0, 1, 2, 3, 4] rfl
        have hD9 := hD.sub (ws' := [(dr, .inr (1, [.int dxG_22])), (a, .inr (7, [.int (nI wide), .int (nI high), .int heat, .int cools, .int skinHeat, .int today, .int stirs, .int steps, .int (nI lumps), .int (nI boats), .ref thickness, .ref lumpNames, .ref lumpCells, .ref boatNames, .ref boatCells, .ref loads, .ref spoons, .ref spoonsLeft, .ref depths])), (thickness, .inl (ky 0, 36, .inl thicknessF)), (lumpCells, .inl (ky 0, 6, .inl lumpCellsF)), (boatCells, .inl (ky 0, 6, .inl boatCellsF)), (depths, .inl (ky 0, 6, .inl depthsF))]) [5, 0, 1, 2, 3, 4] (by decide) rfl
        exact W.vret hx hb hr (fun t9 ht9 hW9 => ⟨⟨(dxG_22, stirs, thicknessF, lumpCellsF, boatCellsF), rfl, trivial, by rw [ht9]; exact hP9, va_K.moved hW9.alike hK, hD9⟩, hS.F ht9⟩) hS.2.2 dX1_stirByDraw_61
      · refine lv_aload_n hx hb dX1_stirByDraw_53 rfl (lv_at hl 4 rfl) ?_
        refine lv_iload_n hx hb dX1_stirByDraw_54 rfl (lv_at hl 2 rfl) ?_
        refine lv_iload_n hx hb dX1_stirByDraw_55 rfl (lv_at hl 1 rfl) ?_
        refine lv_iload hx hb dX1_stirByDraw_56 (lv_at hl 0 rfl) ?_
        refine r_call_v (wr := [(dr, .inr (1, [.int dxG_22]))]) (va_runV (As := [.int r8, .int r17, .int r21]) (rest := []) ⟨hx, hb, hml, hown, hts⟩ (c_s_stirLine l dC dI ky H.size a wide high heat cools skinHeat today stirs steps lumps boats thickness lumpNames lumpCells boatNames boatCells loads spoons spoonsLeft depths thicknessF lumpCellsF boatCellsF depthsF r8 r17 r21 iv_a_0 iv_a_1 iv_a_2 iv_a_3 iv_a_4 iv_a_5) (cwV 3 hts gX1_stirByDraw_X7_stirLine rfl rfl rfl (by decide +kernel) ⟨(Nat.le_of_ble_eq_true rfl), (Nat.le_of_ble_eq_true rfl)⟩) (pre_UV hK hP hD [0, 1, 2, 3, 4] (by decide) rfl (ci := 7) (q0 := 0) rfl rfl) rfl rfl hl.1 rfl (lv_room (Nat.le_of_ble_eq_true rfl)) dX1_stirByDraw_58 ⟨(Nat.le_of_ble_eq_true rfl), (Nat.le_of_ble_eq_true rfl)⟩) hP hD hS hA [0, 1, 2, 3, 4] [5] rfl rfl (by decide) (by decide) (fun  u26 H locs p27 hP hD hS => ?_)
        obtain ⟨stirsG_28, thicknessG_29, lumpCellsG_30, boatCellsG_31⟩ := u26
        refine W.widen (k := 0) (n := 0) (Nat.le_of_ble_eq_true rfl) (Nat.le_of_ble_eq_true rfl) ?_
        have hP : va_P (dC, dI) vwCl [(dr, .inr (1, [.int dxG_22])), (a, .inr (7, [.int (nI wide), .int (nI high), .int heat, .int cools, .int skinHeat, .int today, .int stirsG_28, .int steps, .int (nI lumps), .int (nI boats), .ref thickness, .ref lumpNames, .ref lumpCells, .ref boatNames, .ref boatCells, .ref loads, .ref spoons, .ref spoonsLeft, .ref depths])), (thickness, .inl (ky 0, 36, .inl thicknessG_29)), (lumpCells, .inl (ky 0, 6, .inl lumpCellsG_30)), (boatCells, .inl (ky 0, 6, .inl boatCellsG_31)), (depths, .inl (ky 0, 6, .inl depthsF))] H := hP
        have hD : va_D A [(dr, .inr (1, [.int dxG_22])), (a, .inr (7, [.int (nI wide), .int (nI high), .int heat, .int cools, .int skinHeat, .int today, .int stirsG_28, .int steps, .int (nI lumps), .int (nI boats), .ref thickness, .ref lumpNames, .ref lumpCells, .ref boatNames, .ref boatCells, .ref loads, .ref spoons, .ref spoonsLeft, .ref depths])), (thickness, .inl (ky 0, 36, .inl thicknessG_29)), (lumpCells, .inl (ky 0, 6, .inl lumpCellsG_30)), (boatCells, .inl (ky 0, 6, .inl boatCellsG_31)), (depths, .inl (ky 0, 6, .inl depthsF))] := hD
        rw [hQ]
        exact W.vret hx hb hr (fun t9 ht9 hW9 => ⟨⟨(dxG_22, stirsG_28, thicknessG_29, lumpCellsG_30, boatCellsG_31), rfl, trivial, by rw [ht9]; exact hP, va_K.moved hW9.alike hK, hD⟩, hS.F ht9⟩) hS.2.2 dX1_stirByDraw_61
    refine lv_if_ne (tgt := 27) hx hb dX1_stirByDraw_17 (by decide) (fun c10 => ?_) (fun c10 => ?_)
    · refine lv_aload_n hx hb dX1_stirByDraw_27 rfl (lv_at hl 2 rfl) ?_
      refine va_get (D := (dC, dI)) (ci := 7) (v := .int (nI wide)) (C := RX7) (T := TX7) (N := 19) hx hb hts hin7 hown hK hP 0 rfl rfl 0 (by decide) (hts (.fieldLink RX1 45 "PorridgeSea$Sea" "wide" "I") (List.mem_of_getElem? (i := 2) rfl)) (fun _ h9 => h9) rfl dX1_stirByDraw_28 ?_
      exact hJ14 (nI wide) (lf_d_stirByDraw_1 wide iv_a_0 iv_a_1) (lf_d_stirByDraw_2 wide iv_a_0 iv_a_1) _ _ _ hP hD hS (lv_sub hl [0, 1, 2] rfl)
    · refine lv_aload_n hx hb dX1_stirByDraw_20 rfl (lv_at hl 2 rfl) ?_
      refine va_get (D := (dC, dI)) (ci := 7) (v := .int (nI high)) (C := RX7) (T := TX7) (N := 19) hx hb hts hin7 hown hK hP 0 rfl rfl 1 (by decide) (hts (.fieldLink RX1 42 "PorridgeSea$Sea" "high" "I") (List.mem_of_getElem? (i := 1) rfl)) (fun _ h9 => h9) rfl dX1_stirByDraw_21 ?_
      refine lv_goto (tgt := 31) hx hb dX1_stirByDraw_24 (by decide) ?_
      exact hJ14 (nI high) (lf_d_stirByDraw_3 high iv_a_2 iv_a_3) (lf_d_stirByDraw_4 high iv_a_2 iv_a_3) _ _ _ hP hD hS (lv_sub hl [0, 1, 2] rfl)
  · rw [hQ]
    have hP9 := hP.sub (ws' := [(dr, .inr (1, [.int dxG_4])), (a, .inr (7, [.int (nI wide), .int (nI high), .int heat, .int cools, .int skinHeat, .int today, .int stirs, .int steps, .int (nI lumps), .int (nI boats), .ref thickness, .ref lumpNames, .ref lumpCells, .ref boatNames, .ref boatCells, .ref loads, .ref spoons, .ref spoonsLeft, .ref depths])), (thickness, .inl (ky 0, 36, .inl thicknessF)), (lumpCells, .inl (ky 0, 6, .inl lumpCellsF)), (boatCells, .inl (ky 0, 6, .inl boatCellsF)), (depths, .inl (ky 0, 6, .inl depthsF))]) [5, 0, 1, 2, 3, 4] rfl
    have hD9 := hD.sub (ws' := [(dr, .inr (1, [.int dxG_4])), (a, .inr (7, [.int (nI wide), .int (nI high), .int heat, .int cools, .int skinHeat, .int today, .int stirs, .int steps, .int (nI lumps), .int (nI boats), .ref thickness, .ref lumpNames, .ref lumpCells, .ref boatNames, .ref boatCells, .ref loads, .ref spoons, .ref spoonsLeft, .ref depths])), (thickness, .inl (ky 0, 36, .inl thicknessF)), (lumpCells, .inl (ky 0, 6, .inl lumpCellsF)), (boatCells, .inl (ky 0, 6, .inl boatCellsF)), (depths, .inl (ky 0, 6, .inl depthsF))]) [5, 0, 1, 2, 3, 4] (by decide) rfl
    exact W.vret hx hb hr (fun t9 ht9 hW9 => ⟨⟨(dxG_4, stirs, thicknessF, lumpCellsF, boatCellsF), rfl, trivial, by rw [ht9]; exact hP9, va_K.moved hW9.alike hK, hD9⟩, hS.F ht9⟩) hS.2.2 dX1_stirByDraw_8
set_option maxRecDepth 20000 in
theorem lf_d_rowByDraw_1 (boats : Nat) (k13 : Nat) (n20 : Nat) (iv_a_5 : boats ≤ 6) (j18 : k13 ≤ 6) (hm22 : 6 - k13 < n20 + 1) (c23 : k13 < boats) (t26 : 0 ≤ (nI k13).toInt) (t27 : (nI k13).toInt < boats) : (k13 + 1) ≤ 6 := by
  try have k_0 := ia_n k13 (by first | decide | omega)
  try simp only [ia_lt, ia_le, ia_eq, ia_m1, ia_0, ia_1, ne_eq, true_and, and_true, false_and, and_false, or_false, false_or, or_true, true_or, not_true_eq_false, not_false_eq_true] at *
  all_goals omega
set_option maxRecDepth 20000 in
theorem lf_d_rowByDraw_2 (boats : Nat) (k13 : Nat) (n20 : Nat) (iv_a_5 : boats ≤ 6) (j18 : k13 ≤ 6) (hm22 : 6 - k13 < n20 + 1) (c23 : k13 < boats) (t26 : 0 ≤ (nI k13).toInt) (t27 : (nI k13).toInt < boats) : 6 - (k13 + 1) < n20 := by
  try have k_0 := ia_n k13 (by first | decide | omega)
  try simp only [ia_lt, ia_le, ia_eq, ia_m1, ia_0, ia_1, ne_eq, true_and, and_true, false_and, and_false, or_false, false_or, or_true, true_or, not_true_eq_false, not_false_eq_true] at *
  all_goals omega
set_option maxRecDepth 20000 in
theorem lf_d_rowByDraw_3 (boats : Nat) (k13 : Nat) (n20 : Nat) (iv_a_5 : boats ≤ 6) (j18 : k13 ≤ 6) (hm22 : 6 - k13 < n20 + 1) (c23 : k13 < boats) (t28 : True) : (k13 + 1) ≤ 6 := by
  try simp only [ia_lt, ia_le, ia_eq, ia_m1, ia_0, ia_1, ne_eq, true_and, and_true, false_and, and_false, or_false, false_or, or_true, true_or, not_true_eq_false, not_false_eq_true] at *
  all_goals omega
set_option maxRecDepth 20000 in
theorem lf_d_rowByDraw_4 (boats : Nat) (k13 : Nat) (n20 : Nat) (iv_a_5 : boats ≤ 6) (j18 : k13 ≤ 6) (hm22 : 6 - k13 < n20 + 1) (c23 : k13 < boats) (t28 : True) : 6 - (k13 + 1) < n20 := by
  try simp only [ia_lt, ia_le, ia_eq, ia_m1, ia_0, ia_1, ne_eq, true_and, and_true, false_and, and_false, or_false, false_or, or_true, true_or, not_true_eq_false, not_false_eq_true] at *
  all_goals omega
set_option maxRecDepth 20000 in
theorem lf_d_rowByDraw_5 (boats : Nat) (k13 : Nat) (n20 : Nat) (iv_a_5 : boats ≤ 6) (j18 : k13 ≤ 6) (hm22 : 6 - k13 < n20 + 1) (c23 : k13 < boats) (t28 : True) (p37 : True) : (k13 + 1) ≤ 6 := by
  try simp only [ia_lt, ia_le, ia_eq, ia_m1, ia_0, ia_1, ne_eq, true_and, and_true, false_and, and_false, or_false, false_or, or_true, true_or, not_true_eq_false, not_false_eq_true] at *
  all_goals omega
set_option maxRecDepth 20000 in
theorem lf_d_rowByDraw_6 (boats : Nat) (k13 : Nat) (n20 : Nat) (iv_a_5 : boats ≤ 6) (j18 : k13 ≤ 6) (hm22 : 6 - k13 < n20 + 1) (c23 : k13 < boats) (t28 : True) (p37 : True) : 6 - (k13 + 1) < n20 := by
  try simp only [ia_lt, ia_le, ia_eq, ia_m1, ia_0, ia_1, ne_eq, true_and, and_true, false_and, and_false, or_false, false_or, or_true, true_or, not_true_eq_false, not_false_eq_true] at *
  all_goals omega
set_option maxRecDepth 20000 in
theorem lf_d_rowByDraw_7 (boats : Nat) (k13 : Nat) (n20 : Nat) (iv_a_5 : boats ≤ 6) (j18 : k13 ≤ 6) (hm22 : 6 - k13 < n20 + 1) (c23 : k13 < boats) (t28 : True) (p37 : True) : (k13 + 1) ≤ 6 := by
  try simp only [ia_lt, ia_le, ia_eq, ia_m1, ia_0, ia_1, ne_eq, true_and, and_true, false_and, and_false, or_false, false_or, or_true, true_or, not_true_eq_false, not_false_eq_true] at *
  all_goals omega
set_option maxRecDepth 20000 in
theorem lf_d_rowByDraw_8 (boats : Nat) (k13 : Nat) (n20 : Nat) (iv_a_5 : boats ≤ 6) (j18 : k13 ≤ 6) (hm22 : 6 - k13 < n20 + 1) (c23 : k13 < boats) (t28 : True) (p37 : True) : 6 - (k13 + 1) < n20 := by
  try simp only [ia_lt, ia_le, ia_eq, ia_m1, ia_0, ia_1, ne_eq, true_and, and_true, false_and, and_false, or_false, false_or, or_true, true_or, not_true_eq_false, not_false_eq_true] at *
  all_goals omega
set_option maxRecDepth 20000 in
theorem lf_d_rowByDraw_9   : 0 ≤ 6 := by
  try simp only [ia_lt, ia_le, ia_eq, ia_m1, ia_0, ia_1, ne_eq, true_and, and_true, false_and, and_false, or_false, false_or, or_true, true_or, not_true_eq_false, not_false_eq_true] at *
  all_goals omega
set_option maxHeartbeats 4000000 in
set_option maxRecDepth 100000 in
theorem c_d_rowByDraw (l : Launch) (dC : Nat → ClassId) (dI : Nat → Nat → Nat) (ky : Nat → ClassId) (sz : Nat) (dr : Nat) (dx : Int32) (a : Nat) (wide : Nat) (high : Nat) (heat : Int32) (cools : Int32) (skinHeat : Int32) (today : Int32) (stirs : Int32) (steps : Int32) (lumps : Nat) (boats : Nat) (thickness : Nat) (lumpNames : Nat) (lumpCells : Nat) (boatNames : Nat) (boatCells : Nat) (loads : Nat) (spoons : Nat) (spoonsLeft : Nat) (depths : Nat) (thicknessF : Nat → Int32) (boatCellsF : Nat → Int32) (spoonsLeftF : Nat → Int32) (depthsF : Nat → Int32) (iv_a_0 : 2 ≤ wide) (iv_a_1 : wide ≤ 6) (iv_a_2 : 2 ≤ high) (iv_a_3 : high ≤ 6) (iv_a_4 : lumps ≤ 6) (iv_a_5 : boats ≤ 6) : Met l yX1_rowByDraw wsX1_rowByDraw ({ frames := 3, cells := 0, slots := 0, locals := 69 }) (PcU dC dI ky [.ref dr, .ref a] [(dr, .inr (1, [.int dx])), (a, .inr (7, [.int (nI wide), .int (nI high), .int heat, .int cools, .int skinHeat, .int today, .int stirs, .int steps, .int (nI lumps), .int (nI boats), .ref thickness, .ref lumpNames, .ref lumpCells, .ref boatNames, .ref boatCells, .ref loads, .ref spoons, .ref spoonsLeft, .ref depths])), (thickness, .inl (ky 0, 36, .inl thicknessF)), (boatCells, .inl (ky 0, 6, .inl boatCellsF)), (spoonsLeft, .inl (ky 0, 6, .inl spoonsLeftF)), (depths, .inl (ky 0, 6, .inl depthsF))] sz) (va_Qv (fun (u : Int32 × Int32 × (Nat → Int32) × (Nat → Int32)) => match u with | (dxG, stepsG, boatCellsG, spoonsLeftG) => True) (BU dC dI ky (fun (u : Int32 × Int32 × (Nat → Int32) × (Nat → Int32)) => match u with | (dxG, stepsG, boatCellsG, spoonsLeftG) => [(dr, .inr (1, [.int dxG])), (a, .inr (7, [.int (nI wide), .int (nI high), .int heat, .int cools, .int skinHeat, .int today, .int stirs, .int stepsG, .int (nI lumps), .int (nI boats), .ref thickness, .ref lumpNames, .ref lumpCells, .ref boatNames, .ref boatCells, .ref loads, .ref spoons, .ref spoonsLeft, .ref depths])), (thickness, .inl (ky 0, 36, .inl thicknessF)), (boatCells, .inl (ky 0, 6, .inl boatCellsG)), (spoonsLeft, .inl (ky 0, 6, .inl spoonsLeftG)), (depths, .inl (ky 0, 6, .inl depthsF))]) (va_A [(dr, .inr (1, [.int dx])), (a, .inr (7, [.int (nI wide), .int (nI high), .int heat, .int cools, .int skinHeat, .int today, .int stirs, .int steps, .int (nI lumps), .int (nI boats), .ref thickness, .ref lumpNames, .ref lumpCells, .ref boatNames, .ref boatCells, .ref loads, .ref spoons, .ref spoonsLeft, .ref depths])), (thickness, .inl (ky 0, 36, .inl thicknessF)), (boatCells, .inl (ky 0, 6, .inl boatCellsF)), (spoonsLeft, .inl (ky 0, 6, .inl spoonsLeftF)), (depths, .inl (ky 0, 6, .inl depthsF))] sz)) (va_A [(dr, .inr (1, [.int dx])), (a, .inr (7, [.int (nI wide), .int (nI high), .int heat, .int cools, .int skinHeat, .int today, .int stirs, .int steps, .int (nI lumps), .int (nI boats), .ref thickness, .ref lumpNames, .ref lumpCells, .ref boatNames, .ref boatCells, .ref loads, .ref spoons, .ref spoonsLeft, .ref depths])), (thickness, .inl (ky 0, 36, .inl thicknessF)), (boatCells, .inl (ky 0, 6, .inl boatCellsF)), (spoonsLeft, .inl (ky 0, 6, .inl spoonsLeftF)), (depths, .inl (ky 0, 6, .inl depthsF))] sz)) 0 0 (va_A [(dr, .inr (1, [.int dx])), (a, .inr (7, [.int (nI wide), .int (nI high), .int heat, .int cools, .int skinHeat, .int today, .int stirs, .int steps, .int (nI lumps), .int (nI boats), .ref thickness, .ref lumpNames, .ref lumpCells, .ref boatNames, .ref boatCells, .ref loads, .ref spoons, .ref spoonsLeft, .ref depths])), (thickness, .inl (ky 0, 36, .inl thicknessF)), (boatCells, .inl (ky 0, 6, .inl boatCellsF)), (spoonsLeft, .inl (ky 0, 6, .inl spoonsLeftF)), (depths, .inl (ky 0, 6, .inl depthsF))] sz) := by
  refine Met.ofW (cc := cX1_rowByDraw) (maxL := 4) (ret := none) (by decide) rfl ?_
  intro p e s m args below meth c s₁ B hml hv
  obtain ⟨rfl, hsz, hP, hK, hD0⟩ := hv
  have hx := B.exec
  have hb := B.bytes
  have hr := B.returns
  have hts := atoms_spec (ws := wsX1_rowByDraw) B.pre
  have hown : s.vm.findClass RX1 = some m.cls := findClass_of_methodNamed B.named
  have hlocks := B.notSynchronized
  have hin7 : ∀ w ∈ u_ws RX7 TX7 19, w ∈ wsX1_rowByDraw := by decide +kernel
  subst hsz
  have hD := hD0.self (sz := s.heap.size)
  generalize hAe : va_A [(dr, .inr (1, [.int dx])), (a, .inr (7, [.int (nI wide), .int (nI high), .int heat, .int cools, .int skinHeat, .int today, .int stirs, .int steps, .int (nI lumps), .int (nI boats), .ref thickness, .ref lumpNames, .ref lumpCells, .ref boatNames, .ref boatCells, .ref loads, .ref spoons, .ref spoonsLeft, .ref depths])), (thickness, .inl (ky 0, 36, .inl thicknessF)), (boatCells, .inl (ky 0, 6, .inl boatCellsF)), (spoonsLeft, .inl (ky 0, 6, .inl spoonsLeftF)), (depths, .inl (ky 0, 6, .inl depthsF))] s.heap.size = A at hD ⊢
  have hA : ∀ q : Nat, s.heap.size ≤ q → A q := fun q h => by rw [← hAe]; exact Or.inr h
  have hS : va_S A s.heap s.heap [] := va_S.rf
  have hl := lv_entry ([.ref dr, .ref a]) (n := 4) (Nat.le_of_ble_eq_true rfl)
  rw [lg_entry_eq]
  generalize (lg_sl ([.ref dr, .ref a]) ++ List.replicate (4 - (lg_sl ([.ref dr, .ref a])).length) Slot.unset).toArray = ls at hl ⊢
  have hl : lv_has ls 4 [(0, .ref dr), (1, .ref a)] := hl
  refine q_name (fun Q hQ => ?_)
  generalize ([.ref dr, .ref a] : List Value).toArray = args at hts hQ ⊢
  refine lv_iconst (v := nI 0) hx hb dX1_rowByDraw_0 (by decide) ?_
  refine lv_istore_n (lv' := [(2, .int (nI 0)), (0, .ref dr), (1, .ref a)]) hx hb dX1_rowByDraw_1 rfl hl (by decide) rfl (fun ls hl => ?_)
  have hL19 : ∀ (n20 : Nat) (k13 : Nat) (x14 : Int32) (x15 : Int32) (f16 : Nat → Int32) (f17 : Nat → Int32), (k13 ≤ 6) → 6 - k13 < n20 → ∀ (H : Heap) (locs : List Loc) (ls : Array Slot), va_P (dC, dI) vwCl [(dr, .inr (1, [.int x14])), (a, .inr (7, [.int (nI wide), .int (nI high), .int heat, .int cools, .int skinHeat, .int today, .int stirs, .int x15, .int (nI lumps), .int (nI boats), .ref thickness, .ref lumpNames, .ref lumpCells, .ref boatNames, .ref boatCells, .ref loads, .ref spoons, .ref spoonsLeft, .ref depths])), (thickness, .inl (ky 0, 36, .inl thicknessF)), (boatCells, .inl (ky 0, 6, .inl f16)), (spoonsLeft, .inl (ky 0, 6, .inl f17)), (depths, .inl (ky 0, 6, .inl depthsF))] H → va_D A [(dr, .inr (1, [.int x14])), (a, .inr (7, [.int (nI wide), .int (nI high), .int heat, .int cools, .int skinHeat, .int today, .int stirs, .int x15, .int (nI lumps), .int (nI boats), .ref thickness, .ref lumpNames, .ref lumpCells, .ref boatNames, .ref boatCells, .ref loads, .ref spoons, .ref spoonsLeft, .ref depths])), (thickness, .inl (ky 0, 36, .inl thicknessF)), (boatCells, .inl (ky 0, 6, .inl f16)), (spoonsLeft, .inl (ky 0, 6, .inl f17)), (depths, .inl (ky 0, 6, .inl depthsF))] → va_S A s.heap H locs → lv_has ls 4 [(2, .int (nI k13)), (0, .ref dr), (1, .ref a)] → W p l e (headSpec wsX1_rowByDraw ({ frames := 3, cells := 0, slots := 0, locals := 69 })).room s m args below meth c H locs 0 0 Q (F0 m 2 ls []) := by
    intro n20
    induction n20 with
    | zero => intro k13 x14 x15 f16 f17 _ h9; exact absurd h9 (Nat.not_lt_zero _)
    | succ n20 ih21 =>
      intro k13 x14 x15 f16 f17 j18 hm22 H locs ls hP hD hS hl
      refine lv_iload_n hx hb dX1_rowByDraw_2 rfl (lv_at hl 0 rfl) ?_
      refine lv_aload_n hx hb dX1_rowByDraw_3 rfl (lv_at hl 2 rfl) ?_
      refine va_get (D := (dC, dI)) (ci := 7) (v := .int (nI boats)) (C := RX7) (T := TX7) (N := 19) hx hb hts hin7 hown hK hP 1 rfl rfl 9 (by decide) (hts (.fieldLink RX1 56 "PorridgeSea$Sea" "boats" "I") (List.mem_of_getElem? (i := 1) rfl)) (fun _ h9 => h9) rfl dX1_rowByDraw_4 ?_
      refine n_icmp_ge (x := k13) (y := boats) (tgt := 53) hx hb (by omega) (by omega) dX1_rowByDraw_7 (by decide) (fun c23 => ?_) (fun c23 => ?_)
      · rw [hQ]
        exact W.vret hx hb hr (fun t9 ht9 hW9 => ⟨⟨(x14, x15, f16, f17), rfl, trivial, by rw [ht9]; exact hP, va_K.moved hW9.alike hK, hD⟩, hS.F ht9⟩) hS.2.2 dX1_rowByDraw_53
      · refine lv_aload_n hx hb dX1_rowByDraw_10 rfl (lv_at hl 2 rfl) ?_
        refine lv_iload_n hx hb dX1_rowByDraw_11 rfl (lv_at hl 0 rfl) ?_
        refine vp_callSi (W.runV (As := [.int (nI k13)]) (rest := []) ⟨hx, hb, hml, hown, hts⟩ (c_s_isEaten l dC dI ky a wide high heat cools skinHeat today stirs x15 lumps boats thickness lumpNames lumpCells boatNames boatCells loads spoons spoonsLeft depths depthsF (nI k13) iv_a_0 iv_a_1 iv_a_2 iv_a_3 iv_a_4 iv_a_5) (cwV 1 hts gX1_rowByDraw_X7_isEaten rfl rfl rfl (by decide +kernel) ⟨(Nat.le_of_ble_eq_true rfl), (Nat.le_of_ble_eq_true rfl)⟩) (pre_PV hK hP [1, 5] rfl (ci := 7) (q0 := 1) rfl rfl) rfl rfl hl.1 rfl (lv_room (Nat.le_of_ble_eq_true rfl)) dX1_rowByDraw_12 ⟨(Nat.le_of_ble_eq_true rfl), (Nat.le_of_ble_eq_true rfl)⟩) (fun r24 p25 => ?_)
        rcases p25 with ⟨rfl, t26, t27⟩ | ⟨rfl, t28⟩
        · refine lv_if_eq (tgt := 21) hx hb dX1_rowByDraw_15 (by decide) (fun c29 => absurd c29 (by decide)) (fun c29 => ?_)
          refine lv_goto (tgt := 47) hx hb dX1_rowByDraw_18 (by decide) ?_
          refine lv_iinc (v := nI (k13 + 1)) (lv' := [(2, .int (nI (k13 + 1))), (0, .ref dr), (1, .ref a)]) hx hb dX1_rowByDraw_47 hl (k := 0) rfl (show nI k13 + nI 1 = nI (k13 + 1) from nI_add _ _) (by decide) rfl (fun ls hl => ?_)
          refine lv_goto (tgt := 2) hx hb dX1_rowByDraw_50 (by decide) ?_
          exact ih21 (k13 + 1) x14 x15 f16 f17 (lf_d_rowByDraw_1 boats k13 n20 iv_a_5 j18 hm22 c23 t26 t27) (lf_d_rowByDraw_2 boats k13 n20 iv_a_5 j18 hm22 c23 t26 t27) _ _ _ hP hD hS (lv_sub hl [0, 1, 2] rfl)
        · refine lv_if_eq (tgt := 21) hx hb dX1_rowByDraw_15 (by decide) (fun c30 => ?_) (fun c30 => absurd (by decide) c30)
          refine lv_aload_n hx hb dX1_rowByDraw_21 rfl (lv_at hl 1 rfl) ?_
          refine lv_iconst (v := nI 5) hx hb dX1_rowByDraw_22 (by decide) ?_
          refine r_call_i (wr := [(a, .inr (7, [.int (nI wide), .int (nI high), .int heat, .int cools, .int skinHeat, .int today, .int stirs, .int x15, .int (nI lumps), .int (nI boats), .ref thickness, .ref lumpNames, .ref lumpCells, .ref boatNames, .ref boatCells, .ref loads, .ref spoons, .ref spoonsLeft, .ref depths])), (thickness, .inl (ky 0, 36, .inl thicknessF)), (boatCells, .inl (ky 0, 6, .inl f16)), (spoonsLeft, .inl (ky 0, 6, .inl f17)), (depths, .inl (ky 0, 6, .inl depthsF))]) (va_runV (As := [.int (nI 5)]) (rest := []) ⟨hx, hb, hml, hown, hts⟩ (c_d_draw l dC dI ky H.size dr x14 (nI 5)) (cwV 1 hts gX1_rowByDraw_X1_draw rfl rfl rfl (by decide +kernel) ⟨(Nat.le_of_ble_eq_true rfl), (Nat.le_of_ble_eq_true rfl)⟩) (pre_UV hK hP hD [0] (by decide) rfl (ci := 1) (q0 := 0) rfl rfl) rfl rfl hl.1 rfl (lv_room (Nat.le_of_ble_eq_true rfl)) dX1_rowByDraw_23 ⟨(Nat.le_of_ble_eq_true rfl), (Nat.le_of_ble_eq_true rfl)⟩) hP hD hS hA [0] [1, 2, 3, 4, 5] rfl rfl (by decide) (by decide) (fun r33 u31 H locs p32 hP hD hS => ?_)
          obtain ⟨dxG_34, rfl⟩ : ∃ z, z = u31 := ⟨_, rfl⟩
          refine W.widen (k := 0) (n := 0) (Nat.le_of_ble_eq_true rfl) (Nat.le_of_ble_eq_true rfl) ?_
          have hP : va_P (dC, dI) vwCl [(a, .inr (7, [.int (nI wide), .int (nI high), .int heat, .int cools, .int skinHeat, .int today, .int stirs, .int x15, .int (nI lumps), .int (nI boats), .ref thickness, .ref lumpNames, .ref lumpCells, .ref boatNames, .ref boatCells, .ref loads, .ref spoons, .ref spoonsLeft, .ref depths])), (thickness, .inl (ky 0, 36, .inl thicknessF)), (boatCells, .inl (ky 0, 6, .inl f16)), (spoonsLeft, .inl (ky 0, 6, .inl f17)), (depths, .inl (ky 0, 6, .inl depthsF)), (dr, .inr (1, [.int dxG_34]))] H := hP
          have hD : va_D A [(a, .inr (7, [.int (nI wide), .int (nI high), .int heat, .int cools, .int skinHeat, .int today, .int stirs, .int x15, .int (nI lumps), .int (nI boats), .ref thickness, .ref lumpNames, .ref lumpCells, .ref boatNames, .ref boatCells, .ref loads, .ref spoons, .ref spoonsLeft, .ref depths])), (thickness, .inl (ky 0, 36, .inl thicknessF)), (boatCells, .inl (ky 0, 6, .inl f16)), (spoonsLeft, .inl (ky 0, 6, .inl f17)), (depths, .inl (ky 0, 6, .inl depthsF)), (dr, .inr (1, [.int dxG_34]))] := hD
          refine lv_istore_n (lv' := [(3, .int r33), (2, .int (nI k13)), (0, .ref dr), (1, .ref a)]) hx hb dX1_rowByDraw_26 rfl hl (by decide) rfl (fun ls hl => ?_)
          refine lv_iload_n hx hb dX1_rowByDraw_27 rfl (lv_at hl 0 rfl) ?_
          refine lv_iconst (v := nI 4) hx hb dX1_rowByDraw_28 (by decide) ?_
          refine lv_icmp_ge (tgt := 47) hx hb dX1_rowByDraw_29 (by decide) (fun c35 => ?_) (fun c35 => ?_)
          · refine lv_iinc (v := nI (k13 + 1)) (lv' := [(2, .int (nI (k13 + 1))), (3, .int r33), (0, .ref dr), (1, .ref a)]) hx hb dX1_rowByDraw_47 hl (k := 1) rfl (show nI k13 + nI 1 = nI (k13 + 1) from nI_add _ _) (by decide) rfl (fun ls hl => ?_)
            refine lv_goto (tgt := 2) hx hb dX1_rowByDraw_50 (by decide) ?_
            exact ih21 (k13 + 1) dxG_34 x15 f16 f17 (lf_d_rowByDraw_3 boats k13 n20 iv_a_5 j18 hm22 c23 t28) (lf_d_rowByDraw_4 boats k13 n20 iv_a_5 j18 hm22 c23 t28) _ _ _ (hP.sub [5, 0, 1, 2, 3, 4] rfl) (hD.sub [5, 0, 1, 2, 3, 4] (by decide) rfl) hS (lv_sub hl [0, 2, 3] rfl)
          · refine lv_aload_n hx hb dX1_rowByDraw_32 rfl (lv_at hl 3 rfl) ?_
            refine lv_iload_n hx hb dX1_rowByDraw_33 rfl (lv_at hl 1 rfl) ?_
            refine lv_iload_n hx hb dX1_rowByDraw_34 rfl (lv_at hl 0 rfl) ?_
            refine vp_callSi (W.runV (As := [.int (nI k13), .int r33]) (rest := []) ⟨hx, hb, hml, hown, hts⟩ (c_s_whyNotRowed l dC dI ky a wide high heat cools skinHeat today stirs x15 lumps boats thickness lumpNames lumpCells boatNames boatCells loads spoons spoonsLeft depths thicknessF f16 f17 depthsF (nI k13) r33 iv_a_0 iv_a_1 iv_a_2 iv_a_3 iv_a_4 iv_a_5) (cwV 2 hts gX1_rowByDraw_X7_whyNotRowed rfl rfl rfl (by decide +kernel) ⟨(Nat.le_of_ble_eq_true rfl), (Nat.le_of_ble_eq_true rfl)⟩) (pre_PV hK hP [0, 1, 2, 3, 4] rfl (ci := 7) (q0 := 0) rfl rfl) rfl rfl hl.1 rfl (lv_room (Nat.le_of_ble_eq_true rfl)) dX1_rowByDraw_35 ⟨(Nat.le_of_ble_eq_true rfl), (Nat.le_of_ble_eq_true rfl)⟩) (fun r36 p37 => ?_)
            refine lv_if_ne (tgt := 47) hx hb dX1_rowByDraw_38 (by decide) (fun c38 => ?_) (fun c38 => ?_)
            · refine lv_iinc (v := nI (k13 + 1)) (lv' := [(2, .int (nI (k13 + 1))), (3, .int r33), (0, .ref dr), (1, .ref a)]) hx hb dX1_rowByDraw_47 hl (k := 1) rfl (show nI k13 + nI 1 = nI (k13 + 1) from nI_add _ _) (by decide) rfl (fun ls hl => ?_)
              refine lv_goto (tgt := 2) hx hb dX1_rowByDraw_50 (by decide) ?_
              exact ih21 (k13 + 1) dxG_34 x15 f16 f17 (lf_d_rowByDraw_5 boats k13 n20 iv_a_5 j18 hm22 c23 t28 p37) (lf_d_rowByDraw_6 boats k13 n20 iv_a_5 j18 hm22 c23 t28 p37) _ _ _ (hP.sub [5, 0, 1, 2, 3, 4] rfl) (hD.sub [5, 0, 1, 2, 3, 4] (by decide) rfl) hS (lv_sub hl [0, 2, 3] rfl)
            · refine lv_aload_n hx hb dX1_rowByDraw_41 rfl (lv_at hl 3 rfl) ?_
              refine lv_iload_n hx hb dX1_rowByDraw_42 rfl (lv_at hl 1 rfl) ?_
              refine lv_iload_n hx hb dX1_rowByDraw_43 rfl (lv_at hl 0 rfl) ?_
              refine r_call_v (wr := [(depths, .inl (ky 0, 6, .inl depthsF)), (dr, .inr (1, [.int dxG_34]))]) (va_runV (As := [.int (nI k13), .int r33]) (rest := []) ⟨hx, hb, hml, hown, hts⟩ (c_s_rowBoat l dC dI ky H.size a wide high heat cools skinHeat today stirs x15 lumps boats thickness lumpNames lumpCells boatNames boatCells loads spoons spoonsLeft depths thicknessF f16 f17 (nI k13) r33 iv_a_0 iv_a_1 iv_a_2 iv_a_3 iv_a_4 iv_a_5) (cwV 2 hts gX1_rowByDraw_X7_rowBoat rfl rfl rfl (by decide +kernel) ⟨(Nat.le_of_ble_eq_true rfl), (Nat.le_of_ble_eq_true rfl)⟩) (pre_UV hK hP hD [0, 1, 2, 3] (by decide) rfl (ci := 7) (q0 := 0) rfl rfl) rfl rfl hl.1 rfl (lv_room (Nat.le_of_ble_eq_true rfl)) dX1_rowByDraw_44 ⟨(Nat.le_of_ble_eq_true rfl), (Nat.le_of_ble_eq_true rfl)⟩) hP hD hS hA [0, 1, 2, 3] [4, 5] rfl rfl (by decide) (by decide) (fun  u39 H locs p40 hP hD hS => ?_)
              obtain ⟨stepsG_41, boatCellsG_42, spoonsLeftG_43⟩ := u39
              refine W.widen (k := 0) (n := 0) (Nat.le_of_ble_eq_true rfl) (Nat.le_of_ble_eq_true rfl) ?_
              have hP : va_P (dC, dI) vwCl [(depths, .inl (ky 0, 6, .inl depthsF)), (dr, .inr (1, [.int dxG_34])), (a, .inr (7, [.int (nI wide), .int (nI high), .int heat, .int cools, .int skinHeat, .int today, .int stirs, .int stepsG_41, .int (nI lumps), .int (nI boats), .ref thickness, .ref lumpNames, .ref lumpCells, .ref boatNames, .ref boatCells, .ref loads, .ref spoons, .ref spoonsLeft, .ref depths])), (thickness, .inl (ky 0, 36, .inl thicknessF)), (boatCells, .inl (ky 0, 6, .inl boatCellsG_42)), (spoonsLeft, .inl (ky 0, 6, .inl spoonsLeftG_43))] H := hP
              have hD : va_D A [(depths, .inl (ky 0, 6, .inl depthsF)), (dr, .inr (1, [.int dxG_34])), (a, .inr (7, [.int (nI wide), .int (nI high), .int heat, .int cools, .int skinHeat, .int today, .int stirs, .int stepsG_41, .int (nI lumps), .int (nI boats), .ref thickness, .ref lumpNames, .ref lumpCells, .ref boatNames, .ref boatCells, .ref loads, .ref spoons, .ref spoonsLeft, .ref depths])), (thickness, .inl (ky 0, 36, .inl thicknessF)), (boatCells, .inl (ky 0, 6, .inl boatCellsG_42)), (spoonsLeft, .inl (ky 0, 6, .inl spoonsLeftG_43))] := hD
              refine lv_iinc (v := nI (k13 + 1)) (lv' := [(2, .int (nI (k13 + 1))), (3, .int r33), (0, .ref dr), (1, .ref a)]) hx hb dX1_rowByDraw_47 hl (k := 1) rfl (show nI k13 + nI 1 = nI (k13 + 1) from nI_add _ _) (by decide) rfl (fun ls hl => ?_)
              refine lv_goto (tgt := 2) hx hb dX1_rowByDraw_50 (by decide) ?_
              exact ih21 (k13 + 1) dxG_34 stepsG_41 boatCellsG_42 spoonsLeftG_43 (lf_d_rowByDraw_7 boats k13 n20 iv_a_5 j18 hm22 c23 t28 p37) (lf_d_rowByDraw_8 boats k13 n20 iv_a_5 j18 hm22 c23 t28 p37) _ _ _ (hP.sub [1, 2, 3, 4, 5, 0] rfl) (hD.sub [1, 2, 3, 4, 5, 0] (by decide) rfl) hS (lv_sub hl [0, 2, 3] rfl)
  exact hL19 ((6 - 0) + 1) 0 dx steps boatCellsF spoonsLeftF (lf_d_rowByDraw_9) (Nat.lt_succ_self _) _ _ _ hP hD hS (lv_sub hl [0, 1, 2] rfl)
set_option maxRecDepth 20000 in
theorem lf_d_passDays_1 (x : Int32) (r1 : Int32) (y3 : Int32) (k29 : Nat) (n42 : Nat) (p2 : True) (e4 : y3 = (if r1 < x then r1 else x)) (j40 : k29 ≤ 2147483647) (hm44 : 2147483647 - k29 < n42 + 1) (c45 : ¬ y3 ≤ nI k29) : (k29 + 1) ≤ 2147483647 := by
  have b_x := ia_b x
  have b_r1 := ia_b r1
  have b_y3 := ia_b y3
  try have k_0 := ia_n k29 (by first | decide | omega)
  try simp only [ia_lt, ia_le, ia_eq, ia_m1, ia_0, ia_1, ne_eq, true_and, and_true, false_and, and_false, or_false, false_or, or_true, true_or, not_true_eq_false, not_false_eq_true] at *
  all_goals omega
set_option maxRecDepth 20000 in
theorem lf_d_passDays_2 (x : Int32) (r1 : Int32) (y3 : Int32) (k29 : Nat) (n42 : Nat) (p2 : True) (e4 : y3 = (if r1 < x then r1 else x)) (j40 : k29 ≤ 2147483647) (hm44 : 2147483647 - k29 < n42 + 1) (c45 : ¬ y3 ≤ nI k29) : 2147483647 - (k29 + 1) < n42 := by
  have b_x := ia_b x
  have b_r1 := ia_b r1
  have b_y3 := ia_b y3
  try have k_0 := ia_n k29 (by first | decide | omega)
  try simp only [ia_lt, ia_le, ia_eq, ia_m1, ia_0, ia_1, ne_eq, true_and, and_true, false_and, and_false, or_false, false_or, or_true, true_or, not_true_eq_false, not_false_eq_true] at *
  all_goals omega
set_option maxRecDepth 20000 in
theorem lf_d_passDays_3  (p2 : True) : 0 ≤ 2147483647 := by
  try simp only [ia_lt, ia_le, ia_eq, ia_m1, ia_0, ia_1, ne_eq, true_and, and_true, false_and, and_false, or_false, false_or, or_true, true_or, not_true_eq_false, not_false_eq_true] at *
  all_goals omega
set_option maxHeartbeats 4000000 in
set_option maxRecDepth 100000 in
theorem c_d_passDays (l : Launch) (dC : Nat → ClassId) (dI : Nat → Nat → Nat) (ky : Nat → ClassId) (sz : Nat) (dr : Nat) (dx : Int32) (a : Nat) (wide : Nat) (high : Nat) (heat : Int32) (cools : Int32) (skinHeat : Int32) (today : Int32) (stirs : Int32) (steps : Int32) (lumps : Nat) (boats : Nat) (thickness : Nat) (lumpNames : Nat) (lumpCells : Nat) (boatNames : Nat) (boatCells : Nat) (loads : Nat) (spoons : Nat) (spoonsLeft : Nat) (depths : Nat) (thicknessF : Nat → Int32) (lumpCellsF : Nat → Int32) (boatCellsF : Nat → Int32) (loadsF : Nat → Int32) (spoonsF : Nat → Int32) (spoonsLeftF : Nat → Int32) (depthsF : Nat → Int32) (x : Int32) (y : Int32) (iv_a_0 : 2 ≤ wide) (iv_a_1 : wide ≤ 6) (iv_a_2 : 2 ≤ high) (iv_a_3 : high ≤ 6) (iv_a_4 : lumps ≤ 6) (iv_a_5 : boats ≤ 6) : Met l yX1_passDays wsX1_passDays ({ frames := 4, cells := 0, slots := 0, locals := 96 }) (PcU dC dI ky [.ref dr, .ref a, .int x, .int y] [(dr, .inr (1, [.int dx])), (a, .inr (7, [.int (nI wide), .int (nI high), .int heat, .int cools, .int skinHeat, .int today, .int stirs, .int steps, .int (nI lumps), .int (nI boats), .ref thickness, .ref lumpNames, .ref lumpCells, .ref boatNames, .ref boatCells, .ref loads, .ref spoons, .ref spoonsLeft, .ref depths])), (thickness, .inl (ky 0, 36, .inl thicknessF)), (lumpCells, .inl (ky 0, 6, .inl lumpCellsF)), (boatCells, .inl (ky 0, 6, .inl boatCellsF)), (loads, .inl (ky 0, 6, .inl loadsF)), (spoons, .inl (ky 0, 6, .inl spoonsF)), (spoonsLeft, .inl (ky 0, 6, .inl spoonsLeftF)), (depths, .inl (ky 0, 6, .inl depthsF))] sz) (va_Qi (fun (r : Int32) (u : Int32 × Int32 × Int32 × Int32 × Int32 × (Nat → Int32) × (Nat → Int32) × (Nat → Int32) × (Nat → Int32) × (Nat → Int32)) => match u with | (dxG, heatG, todayG, stirsG, stepsG, thicknessG, lumpCellsG, boatCellsG, spoonsLeftG, depthsG) => True) (BU dC dI ky (fun (u : Int32 × Int32 × Int32 × Int32 × Int32 × (Nat → Int32) × (Nat → Int32) × (Nat → Int32) × (Nat → Int32) × (Nat → Int32)) => match u with | (dxG, heatG, todayG, stirsG, stepsG, thicknessG, lumpCellsG, boatCellsG, spoonsLeftG, depthsG) => [(dr, .inr (1, [.int dxG])), (a, .inr (7, [.int (nI wide), .int (nI high), .int heatG, .int cools, .int skinHeat, .int todayG, .int stirsG, .int stepsG, .int (nI lumps), .int (nI boats), .ref thickness, .ref lumpNames, .ref lumpCells, .ref boatNames, .ref boatCells, .ref loads, .ref spoons, .ref spoonsLeft, .ref depths])), (thickness, .inl (ky 0, 36, .inl thicknessG)), (lumpCells, .inl (ky 0, 6, .inl lumpCellsG)), (boatCells, .inl (ky 0, 6, .inl boatCellsG)), (loads, .inl (ky 0, 6, .inl loadsF)), (spoons, .inl (ky 0, 6, .inl spoonsF)), (spoonsLeft, .inl (ky 0, 6, .inl spoonsLeftG)), (depths, .inl (ky 0, 6, .inl depthsG))]) (va_A [(dr, .inr (1, [.int dx])), (a, .inr (7, [.int (nI wide), .int (nI high), .int heat, .int cools, .int skinHeat, .int today, .int stirs, .int steps, .int (nI lumps), .int (nI boats), .ref thickness, .ref lumpNames, .ref lumpCells, .ref boatNames, .ref boatCells, .ref loads, .ref spoons, .ref spoonsLeft, .ref depths])), (thickness, .inl (ky 0, 36, .inl thicknessF)), (lumpCells, .inl (ky 0, 6, .inl lumpCellsF)), (boatCells, .inl (ky 0, 6, .inl boatCellsF)), (loads, .inl (ky 0, 6, .inl loadsF)), (spoons, .inl (ky 0, 6, .inl spoonsF)), (spoonsLeft, .inl (ky 0, 6, .inl spoonsLeftF)), (depths, .inl (ky 0, 6, .inl depthsF))] sz)) (va_A [(dr, .inr (1, [.int dx])), (a, .inr (7, [.int (nI wide), .int (nI high), .int heat, .int cools, .int skinHeat, .int today, .int stirs, .int steps, .int (nI lumps), .int (nI boats), .ref thickness, .ref lumpNames, .ref lumpCells, .ref boatNames, .ref boatCells, .ref loads, .ref spoons, .ref spoonsLeft, .ref depths])), (thickness, .inl (ky 0, 36, .inl thicknessF)), (lumpCells, .inl (ky 0, 6, .inl lumpCellsF)), (boatCells, .inl (ky 0, 6, .inl boatCellsF)), (loads, .inl (ky 0, 6, .inl loadsF)), (spoons, .inl (ky 0, 6, .inl spoonsF)), (spoonsLeft, .inl (ky 0, 6, .inl spoonsLeftF)), (depths, .inl (ky 0, 6, .inl depthsF))] sz)) 0 0 (va_A [(dr, .inr (1, [.int dx])), (a, .inr (7, [.int (nI wide), .int (nI high), .int heat, .int cools, .int skinHeat, .int today, .int stirs, .int steps, .int (nI lumps), .int (nI boats), .ref thickness, .ref lumpNames, .ref lumpCells, .ref boatNames, .ref boatCells, .ref loads, .ref spoons, .ref spoonsLeft, .ref depths])), (thickness, .inl (ky 0, 36, .inl thicknessF)), (lumpCells, .inl (ky 0, 6, .inl lumpCellsF)), (boatCells, .inl (ky 0, 6, .inl boatCellsF)), (loads, .inl (ky 0, 6, .inl loadsF)), (spoons, .inl (ky 0, 6, .inl spoonsF)), (spoonsLeft, .inl (ky 0, 6, .inl spoonsLeftF)), (depths, .inl (ky 0, 6, .inl depthsF))] sz) := by
  refine Met.ofW (cc := cX1_passDays) (maxL := 6) (ret := (some .int)) (by decide) rfl ?_
  intro p e s m args below meth c s₁ B hml hv
  obtain ⟨rfl, hsz, hP, hK, hD0⟩ := hv
  have hx := B.exec
  have hb := B.bytes
  have hr := B.returns
  have hts := atoms_spec (ws := wsX1_passDays) B.pre
  have hown : s.vm.findClass RX1 = some m.cls := findClass_of_methodNamed B.named
  have hlocks := B.notSynchronized
  have hin1 : ∀ w ∈ u_ws RX1 TX1 1, w ∈ wsX1_passDays := by decide +kernel
  subst hsz
  have hD := hD0.self (sz := s.heap.size)
  generalize hAe : va_A [(dr, .inr (1, [.int dx])), (a, .inr (7, [.int (nI wide), .int (nI high), .int heat, .int cools, .int skinHeat, .int today, .int stirs, .int steps, .int (nI lumps), .int (nI boats), .ref thickness, .ref lumpNames, .ref lumpCells, .ref boatNames, .ref boatCells, .ref loads, .ref spoons, .ref spoonsLeft, .ref depths])), (thickness, .inl (ky 0, 36, .inl thicknessF)), (lumpCells, .inl (ky 0, 6, .inl lumpCellsF)), (boatCells, .inl (ky 0, 6, .inl boatCellsF)), (loads, .inl (ky 0, 6, .inl loadsF)), (spoons, .inl (ky 0, 6, .inl spoonsF)), (spoonsLeft, .inl (ky 0, 6, .inl spoonsLeftF)), (depths, .inl (ky 0, 6, .inl depthsF))] s.heap.size = A at hD ⊢
  have hA : ∀ q : Nat, s.heap.size ≤ q → A q := fun q h => by rw [← hAe]; exact Or.inr h
  have hS : va_S A s.heap s.heap [] := va_S.rf
  have hl := lv_entry ([.ref dr, .ref a, .int x, .int y]) (n := 6) (Nat.le_of_ble_eq_true rfl)
  rw [lg_entry_eq]
  generalize (lg_sl ([.ref dr, .ref a, .int x, .int y]) ++ List.replicate (6 - (lg_sl ([.ref dr, .ref a, .int x, .int y])).length) Slot.unset).toArray = ls at hl ⊢
  have hl : lv_has ls 6 [(0, .ref dr), (1, .ref a), (2, .int x), (3, .int y)] := hl
  refine q_name (fun Q hQ => ?_)
  generalize ([.ref dr, .ref a, .int x, .int y] : List Value).toArray = args at hts hQ ⊢
  refine lv_aload_n hx hb dX1_passDays_0 rfl (lv_at hl 0 rfl) ?_
  refine lv_iload_n hx hb dX1_passDays_1 rfl (lv_at hl 3 rfl) ?_
  refine va_put (D := (dC, dI)) (ci := 1) (v := .int y) (ty := .int) (C := RX1) (T := TX1) (N := 1) hx hb hts hin1 tyX1 tyX1_ok nmX1 hown hK hP hD hS 0 rfl rfl 0 (by decide) (hts (.fieldLink RX1 9 "PorridgeSea$Draws" "x" "I") (List.mem_of_getElem? (i := 1) rfl)) (fun _ h9 => h9) rfl (by decide +kernel) rfl rfl (Nat.le_of_ble_eq_true rfl) dX1_passDays_2 (fun H locs hP hD hS => ?_)
  have hP : va_P (dC, dI) vwCl [(dr, .inr (1, [.int y])), (a, .inr (7, [.int (nI wide), .int (nI high), .int heat, .int cools, .int skinHeat, .int today, .int stirs, .int steps, .int (nI lumps), .int (nI boats), .ref thickness, .ref lumpNames, .ref lumpCells, .ref boatNames, .ref boatCells, .ref loads, .ref spoons, .ref spoonsLeft, .ref depths])), (thickness, .inl (ky 0, 36, .inl thicknessF)), (lumpCells, .inl (ky 0, 6, .inl lumpCellsF)), (boatCells, .inl (ky 0, 6, .inl boatCellsF)), (loads, .inl (ky 0, 6, .inl loadsF)), (spoons, .inl (ky 0, 6, .inl spoonsF)), (spoonsLeft, .inl (ky 0, 6, .inl spoonsLeftF)), (depths, .inl (ky 0, 6, .inl depthsF))] H := hP
  have hD : va_D A [(dr, .inr (1, [.int y])), (a, .inr (7, [.int (nI wide), .int (nI high), .int heat, .int cools, .int skinHeat, .int today, .int stirs, .int steps, .int (nI lumps), .int (nI boats), .ref thickness, .ref lumpNames, .ref lumpCells, .ref boatNames, .ref boatCells, .ref loads, .ref spoons, .ref spoonsLeft, .ref depths])), (thickness, .inl (ky 0, 36, .inl thicknessF)), (lumpCells, .inl (ky 0, 6, .inl lumpCellsF)), (boatCells, .inl (ky 0, 6, .inl boatCellsF)), (loads, .inl (ky 0, 6, .inl loadsF)), (spoons, .inl (ky 0, 6, .inl spoonsF)), (spoonsLeft, .inl (ky 0, 6, .inl spoonsLeftF)), (depths, .inl (ky 0, 6, .inl depthsF))] := hD
  refine lv_iload_n hx hb dX1_passDays_5 rfl (lv_at hl 2 rfl) ?_
  refine lv_aload_n hx hb dX1_passDays_6 rfl (lv_at hl 1 rfl) ?_
  refine vp_callSi (W.runV (As := []) (rest := [.int x]) ⟨hx, hb, hml, hown, hts⟩ (c_s_daysLeft l dC dI ky a wide high heat cools skinHeat today stirs steps lumps boats thickness lumpNames lumpCells boatNames boatCells loads spoons spoonsLeft depths iv_a_0 iv_a_1 iv_a_2 iv_a_3 iv_a_4 iv_a_5) (cwV 0 hts gX1_passDays_X7_daysLeft rfl rfl rfl (by decide +kernel) ⟨(Nat.le_of_ble_eq_true rfl), (Nat.le_of_ble_eq_true rfl)⟩) (pre_PV hK hP [1] rfl (ci := 7) (q0 := 1) rfl rfl) rfl rfl hl.1 rfl (lv_room (Nat.le_of_ble_eq_true rfl)) dX1_passDays_7 ⟨(Nat.le_of_ble_eq_true rfl), (Nat.le_of_ble_eq_true rfl)⟩) (fun r1 p2 => ?_)
  refine va_mmin hx hb (by rw [hml]; exact hl.1.symm) hown (hts _ (List.mem_of_getElem? (i := 2) rfl)) (hts _ (List.mem_of_getElem? (i := 3) rfl)) (hts _ (List.mem_of_getElem? (i := 4) rfl)) (hts _ (List.mem_of_getElem? (i := 5) rfl)) (Nat.le_of_ble_eq_true rfl) (Nat.le_of_ble_eq_true rfl) (Nat.le_of_ble_eq_true rfl) (Nat.le_of_ble_eq_true rfl) dX1_passDays_10 ?_
  refine lv_topi (fun y3 e4 => ?_)
  refine lv_istore (lv' := [(4, .int y3), (0, .ref dr), (1, .ref a), (2, .int x), (3, .int y)]) hx hb dX1_passDays_13 hl (by decide) rfl (fun ls hl => ?_)
  refine lv_iconst (v := nI 0) hx hb dX1_passDays_15 (by decide) ?_
  refine lv_istore (lv' := [(5, .int (nI 0)), (4, .int y3), (0, .ref dr), (1, .ref a), (2, .int x), (3, .int y)]) hx hb dX1_passDays_16 hl (by decide) rfl (fun ls hl => ?_)
  have hL41 : ∀ (n42 : Nat) (k29 : Nat) (x30 : Int32) (x31 : Int32) (x32 : Int32) (x33 : Int32) (x34 : Int32) (f35 : Nat → Int32) (f36 : Nat → Int32) (f37 : Nat → Int32) (f38 : Nat → Int32) (f39 : Nat → Int32), (k29 ≤ 2147483647) → 2147483647 - k29 < n42 → ∀ (H : Heap) (locs : List Loc) (ls : Array Slot), va_P (dC, dI) vwCl [(dr, .inr (1, [.int x30])), (a, .inr (7, [.int (nI wide), .int (nI high), .int x31, .int cools, .int skinHeat, .int x32, .int x33, .int x34, .int (nI lumps), .int (nI boats), .ref thickness, .ref lumpNames, .ref lumpCells, .ref boatNames, .ref boatCells, .ref loads, .ref spoons, .ref spoonsLeft, .ref depths])), (thickness, .inl (ky 0, 36, .inl f35)), (lumpCells, .inl (ky 0, 6, .inl f36)), (boatCells, .inl (ky 0, 6, .inl f37)), (loads, .inl (ky 0, 6, .inl loadsF)), (spoons, .inl (ky 0, 6, .inl spoonsF)), (spoonsLeft, .inl (ky 0, 6, .inl f38)), (depths, .inl (ky 0, 6, .inl f39))] H → va_D A [(dr, .inr (1, [.int x30])), (a, .inr (7, [.int (nI wide), .int (nI high), .int x31, .int cools, .int skinHeat, .int x32, .int x33, .int x34, .int (nI lumps), .int (nI boats), .ref thickness, .ref lumpNames, .ref lumpCells, .ref boatNames, .ref boatCells, .ref loads, .ref spoons, .ref spoonsLeft, .ref depths])), (thickness, .inl (ky 0, 36, .inl f35)), (lumpCells, .inl (ky 0, 6, .inl f36)), (boatCells, .inl (ky 0, 6, .inl f37)), (loads, .inl (ky 0, 6, .inl loadsF)), (spoons, .inl (ky 0, 6, .inl spoonsF)), (spoonsLeft, .inl (ky 0, 6, .inl f38)), (depths, .inl (ky 0, 6, .inl f39))] → va_S A s.heap H locs → lv_has ls 6 [(5, .int (nI k29)), (4, .int y3), (0, .ref dr), (1, .ref a)] → W p l e (headSpec wsX1_passDays ({ frames := 4, cells := 0, slots := 0, locals := 96 })).room s m args below meth c H locs 0 0 Q (F0 m 18 ls []) := by
    intro n42
    induction n42 with
    | zero => intro k29 x30 x31 x32 x33 x34 f35 f36 f37 f38 f39 _ h9; exact absurd h9 (Nat.not_lt_zero _)
    | succ n42 ih43 =>
      intro k29 x30 x31 x32 x33 x34 f35 f36 f37 f38 f39 j40 hm44 H locs ls hP hD hS hl
      refine lv_iload hx hb dX1_passDays_18 (lv_at hl 0 rfl) ?_
      refine lv_iload hx hb dX1_passDays_20 (lv_at hl 1 rfl) ?_
      refine lv_icmp_ge (tgt := 45) hx hb dX1_passDays_22 (by decide) (fun c45 => ?_) (fun c45 => ?_)
      · refine lv_iload hx hb dX1_passDays_45 (lv_at hl 1 rfl) ?_
        rw [hQ]
        exact W.iret (v := y3) hx hb hr (fun t9 ht9 hW9 => ⟨⟨y3, (x30, x31, x32, x33, x34, f35, f36, f37, f38, f39), rfl, trivial, by rw [ht9]; exact hP, va_K.moved hW9.alike hK, hD⟩, hS.F ht9⟩) hS.2.2 dX1_passDays_47
      · refine lv_aload_n hx hb dX1_passDays_25 rfl (lv_at hl 2 rfl) ?_
        refine lv_aload_n hx hb dX1_passDays_26 rfl (lv_at hl 3 rfl) ?_
        refine r_call_v (wr := [(loads, .inl (ky 0, 6, .inl loadsF)), (spoons, .inl (ky 0, 6, .inl spoonsF)), (spoonsLeft, .inl (ky 0, 6, .inl f38))]) (va_runV (As := [.ref a]) (rest := []) ⟨hx, hb, hml, hown, hts⟩ (c_d_stirByDraw l dC dI ky H.size dr x30 a wide high x31 cools skinHeat x32 x33 x34 lumps boats thickness lumpNames lumpCells boatNames boatCells loads spoons spoonsLeft depths f35 f36 f37 f39 iv_a_0 iv_a_1 iv_a_2 iv_a_3 iv_a_4 iv_a_5) (cwV 1 hts gX1_passDays_X1_stirByDraw rfl rfl rfl (by decide +kernel) ⟨(Nat.le_of_ble_eq_true rfl), (Nat.le_of_ble_eq_true rfl)⟩) (pre_UV hK hP hD [0, 1, 2, 3, 4, 8] (by decide) rfl (ci := 1) (q0 := 0) rfl rfl) rfl rfl hl.1 rfl (lv_room (Nat.le_of_ble_eq_true rfl)) dX1_passDays_27 ⟨(Nat.le_of_ble_eq_true rfl), (Nat.le_of_ble_eq_true rfl)⟩) hP hD hS hA [0, 1, 2, 3, 4, 8] [5, 6, 7] rfl rfl (by decide) (by decide) (fun  u46 H locs p47 hP hD hS => ?_)
        obtain ⟨dxG_48, stirsG_49, thicknessG_50, lumpCellsG_51, boatCellsG_52⟩ := u46
        refine W.widen (k := 0) (n := 0) (Nat.le_of_ble_eq_true rfl) (Nat.le_of_ble_eq_true rfl) ?_
        have hP : va_P (dC, dI) vwCl [(loads, .inl (ky 0, 6, .inl loadsF)), (spoons, .inl (ky 0, 6, .inl spoonsF)), (spoonsLeft, .inl (ky 0, 6, .inl f38)), (dr, .inr (1, [.int dxG_48])), (a, .inr (7, [.int (nI wide), .int (nI high), .int x31, .int cools, .int skinHeat, .int x32, .int stirsG_49, .int x34, .int (nI lumps), .int (nI boats), .ref thickness, .ref lumpNames, .ref lumpCells, .ref boatNames, .ref boatCells, .ref loads, .ref spoons, .ref spoonsLeft, .ref depths])), (thickness, .inl (ky 0, 36, .inl thicknessG_50)), (lumpCells, .inl (ky 0, 6, .inl lumpCellsG_51)), (boatCells, .inl (ky 0, 6, .inl boatCellsG_52)), (depths, .inl (ky 0, 6, .inl f39))] H := hP
        have hD : va_D A [(loads, .inl (ky 0, 6, .inl loadsF)), (spoons, .inl (ky 0, 6, .inl spoonsF)), (spoonsLeft, .inl (ky 0, 6, .inl f38)), (dr, .inr (1, [.int dxG_48])), (a, .inr (7, [.int (nI wide), .int (nI high), .int x31, .int cools, .int skinHeat, .int x32, .int stirsG_49, .int x34, .int (nI lumps), .int (nI boats), .ref thickness, .ref lumpNames, .ref lumpCells, .ref boatNames, .ref boatCells, .ref loads, .ref spoons, .ref spoonsLeft, .ref depths])), (thickness, .inl (ky 0, 36, .inl thicknessG_50)), (lumpCells, .inl (ky 0, 6, .inl lumpCellsG_51)), (boatCells, .inl (ky 0, 6, .inl boatCellsG_52)), (depths, .inl (ky 0, 6, .inl f39))] := hD
        refine lv_aload_n hx hb dX1_passDays_30 rfl (lv_at hl 2 rfl) ?_
        refine lv_aload_n hx hb dX1_passDays_31 rfl (lv_at hl 3 rfl) ?_
        refine r_call_v (wr := [(loads, .inl (ky 0, 6, .inl loadsF)), (spoons, .inl (ky 0, 6, .inl spoonsF)), (lumpCells, .inl (ky 0, 6, .inl lumpCellsG_51))]) (va_runV (As := [.ref a]) (rest := []) ⟨hx, hb, hml, hown, hts⟩ (c_d_rowByDraw l dC dI ky H.size dr dxG_48 a wide high x31 cools skinHeat x32 stirsG_49 x34 lumps boats thickness lumpNames lumpCells boatNames boatCells loads spoons spoonsLeft depths thicknessG_50 boatCellsG_52 f38 f39 iv_a_0 iv_a_1 iv_a_2 iv_a_3 iv_a_4 iv_a_5) (cwV 1 hts gX1_passDays_X1_rowByDraw rfl rfl rfl (by decide +kernel) ⟨(Nat.le_of_ble_eq_true rfl), (Nat.le_of_ble_eq_true rfl)⟩) (pre_UV hK hP hD [3, 4, 5, 7, 2, 8] (by decide) rfl (ci := 1) (q0 := 3) rfl rfl) rfl rfl hl.1 rfl (lv_room (Nat.le_of_ble_eq_true rfl)) dX1_passDays_32 ⟨(Nat.le_of_ble_eq_true rfl), (Nat.le_of_ble_eq_true rfl)⟩) hP hD hS hA [3, 4, 5, 7, 2, 8] [0, 1, 6] rfl rfl (by decide) (by decide) (fun  u53 H locs p54 hP hD hS => ?_)
        obtain ⟨dxG_55, stepsG_56, boatCellsG_57, spoonsLeftG_58⟩ := u53
        refine W.widen (k := 0) (n := 0) (Nat.le_of_ble_eq_true rfl) (Nat.le_of_ble_eq_true rfl) ?_
        have hP : va_P (dC, dI) vwCl [(loads, .inl (ky 0, 6, .inl loadsF)), (spoons, .inl (ky 0, 6, .inl spoonsF)), (lumpCells, .inl (ky 0, 6, .inl lumpCellsG_51)), (dr, .inr (1, [.int dxG_55])), (a, .inr (7, [.int (nI wide), .int (nI high), .int x31, .int cools, .int skinHeat, .int x32, .int stirsG_49, .int stepsG_56, .int (nI lumps), .int (nI boats), .ref thickness, .ref lumpNames, .ref lumpCells, .ref boatNames, .ref boatCells, .ref loads, .ref spoons, .ref spoonsLeft, .ref depths])), (thickness, .inl (ky 0, 36, .inl thicknessG_50)), (boatCells, .inl (ky 0, 6, .inl boatCellsG_57)), (spoonsLeft, .inl (ky 0, 6, .inl spoonsLeftG_58)), (depths, .inl (ky 0, 6, .inl f39))] H := hP
        have hD : va_D A [(loads, .inl (ky 0, 6, .inl loadsF)), (spoons, .inl (ky 0, 6, .inl spoonsF)), (lumpCells, .inl (ky 0, 6, .inl lumpCellsG_51)), (dr, .inr (1, [.int dxG_55])), (a, .inr (7, [.int (nI wide), .int (nI high), .int x31, .int cools, .int skinHeat, .int x32, .int stirsG_49, .int stepsG_56, .int (nI lumps), .int (nI boats), .ref thickness, .ref lumpNames, .ref lumpCells, .ref boatNames, .ref boatCells, .ref loads, .ref spoons, .ref spoonsLeft, .ref depths])), (thickness, .inl (ky 0, 36, .inl thicknessG_50)), (boatCells, .inl (ky 0, 6, .inl boatCellsG_57)), (spoonsLeft, .inl (ky 0, 6, .inl spoonsLeftG_58)), (depths, .inl (ky 0, 6, .inl f39))] := hD
        refine lv_aload_n hx hb dX1_passDays_35 rfl (lv_at hl 3 rfl) ?_
        refine r_call_v (wr := [(dr, .inr (1, [.int dxG_55]))]) (va_runV (As := []) (rest := []) ⟨hx, hb, hml, hown, hts⟩ (c_s_passDay l dC dI ky H.size a wide high x31 cools skinHeat x32 stirsG_49 stepsG_56 lumps boats thickness lumpNames lumpCells boatNames boatCells loads spoons spoonsLeft depths thicknessG_50 lumpCellsG_51 boatCellsG_57 loadsF spoonsF spoonsLeftG_58 f39 iv_a_0 iv_a_1 iv_a_2 iv_a_3 iv_a_4 iv_a_5) (cwV 0 hts gX1_passDays_X7_passDay rfl rfl rfl (by decide +kernel) ⟨(Nat.le_of_ble_eq_true rfl), (Nat.le_of_ble_eq_true rfl)⟩) (pre_UV hK hP hD [4, 5, 2, 6, 0, 1, 7, 8] (by decide) rfl (ci := 7) (q0 := 4) rfl rfl) rfl rfl hl.1 rfl (lv_room (Nat.le_of_ble_eq_true rfl)) dX1_passDays_36 ⟨(Nat.le_of_ble_eq_true rfl), (Nat.le_of_ble_eq_true rfl)⟩) hP hD hS hA [4, 5, 2, 6, 0, 1, 7, 8] [3] rfl rfl (by decide) (by decide) (fun  u59 H locs p60 hP hD hS => ?_)
        obtain ⟨heatG_61, todayG_62, spoonsLeftG_63, depthsG_64⟩ := u59
        refine W.widen (k := 0) (n := 0) (Nat.le_of_ble_eq_true rfl) (Nat.le_of_ble_eq_true rfl) ?_
        have hP : va_P (dC, dI) vwCl [(dr, .inr (1, [.int dxG_55])), (a, .inr (7, [.int (nI wide), .int (nI high), .int heatG_61, .int cools, .int skinHeat, .int todayG_62, .int stirsG_49, .int stepsG_56, .int (nI lumps), .int (nI boats), .ref thickness, .ref lumpNames, .ref lumpCells, .ref boatNames, .ref boatCells, .ref loads, .ref spoons, .ref spoonsLeft, .ref depths])), (thickness, .inl (ky 0, 36, .inl thicknessG_50)), (lumpCells, .inl (ky 0, 6, .inl lumpCellsG_51)), (boatCells, .inl (ky 0, 6, .inl boatCellsG_57)), (loads, .inl (ky 0, 6, .inl loadsF)), (spoons, .inl (ky 0, 6, .inl spoonsF)), (spoonsLeft, .inl (ky 0, 6, .inl spoonsLeftG_63)), (depths, .inl (ky 0, 6, .inl depthsG_64))] H := hP
        have hD : va_D A [(dr, .inr (1, [.int dxG_55])), (a, .inr (7, [.int (nI wide), .int (nI high), .int heatG_61, .int cools, .int skinHeat, .int todayG_62, .int stirsG_49, .int stepsG_56, .int (nI lumps), .int (nI boats), .ref thickness, .ref lumpNames, .ref lumpCells, .ref boatNames, .ref boatCells, .ref loads, .ref spoons, .ref spoonsLeft, .ref depths])), (thickness, .inl (ky 0, 36, .inl thicknessG_50)), (lumpCells, .inl (ky 0, 6, .inl lumpCellsG_51)), (boatCells, .inl (ky 0, 6, .inl boatCellsG_57)), (loads, .inl (ky 0, 6, .inl loadsF)), (spoons, .inl (ky 0, 6, .inl spoonsF)), (spoonsLeft, .inl (ky 0, 6, .inl spoonsLeftG_63)), (depths, .inl (ky 0, 6, .inl depthsG_64))] := hD
        refine lv_iinc (v := nI (k29 + 1)) (lv' := [(5, .int (nI (k29 + 1))), (4, .int y3), (0, .ref dr), (1, .ref a)]) hx hb dX1_passDays_39 hl (k := 0) rfl (show nI k29 + nI 1 = nI (k29 + 1) from nI_add _ _) (by decide) rfl (fun ls hl => ?_)
        refine lv_goto (tgt := 18) hx hb dX1_passDays_42 (by decide) ?_
        exact ih43 (k29 + 1) dxG_55 heatG_61 todayG_62 stirsG_49 stepsG_56 thicknessG_50 lumpCellsG_51 boatCellsG_57 spoonsLeftG_63 depthsG_64 (lf_d_passDays_1 x r1 y3 k29 n42 p2 e4 j40 hm44 c45) (lf_d_passDays_2 x r1 y3 k29 n42 p2 e4 j40 hm44 c45) _ _ _ hP hD hS (lv_sub hl [0, 1, 2, 3] rfl)
  exact hL41 ((2147483647 - 0) + 1) 0 y heat today stirs steps thicknessF lumpCellsF boatCellsF spoonsLeftF depthsF (lf_d_passDays_3 p2) (Nat.lt_succ_self _) _ _ _ hP hD hS (lv_sub hl [0, 1, 2, 3] rfl)
