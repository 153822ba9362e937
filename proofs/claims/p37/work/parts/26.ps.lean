theorem dX11_sea_0 : decode cX11_sea 0 = .ok (.aload_n 0, 1) := by decide +kernel
theorem dX11_sea_1 : decode cX11_sea 1 = .ok (.sipush 900, 3) := by decide +kernel
theorem dX11_sea_4 : decode cX11_sea 4 = .ok (.invokevirtual 116, 3) := by decide +kernel
theorem dX11_sea_7 : decode cX11_sea 7 = .ok (.aload_n 0, 1) := by decide +kernel
theorem dX11_sea_8 : decode cX11_sea 8 = .ok (.getfield 36, 3) := by decide +kernel
theorem dX11_sea_11 : decode cX11_sea 11 = .ok (.aload_n 0, 1) := by decide +kernel
theorem dX11_sea_12 : decode cX11_sea 12 = .ok (.getfield 10, 3) := by decide +kernel
theorem dX11_sea_15 : decode cX11_sea 15 = .ok (.aload_n 0, 1) := by decide +kernel
theorem dX11_sea_16 : decode cX11_sea 16 = .ok (.getfield 30, 3) := by decide +kernel
theorem dX11_sea_19 : decode cX11_sea 19 = .ok (.invokevirtual 119, 3) := by decide +kernel
theorem dX11_sea_22 : decode cX11_sea 22 = .ok (.istore_n 1, 1) := by decide +kernel
theorem dX11_sea_23 : decode cX11_sea 23 = .ok (.aload_n 0, 1) := by decide +kernel
theorem dX11_sea_24 : decode cX11_sea 24 = .ok (.aload_n 0, 1) := by decide +kernel
theorem dX11_sea_25 : decode cX11_sea 25 = .ok (.getfield 10, 3) := by decide +kernel
theorem dX11_sea_28 : decode cX11_sea 28 = .ok (.getfield 123, 3) := by decide +kernel
theorem dX11_sea_31 : decode cX11_sea 31 = .ok (.putfield 20, 3) := by decide +kernel
theorem dX11_sea_34 : decode cX11_sea 34 = .ok (.iload_n 1, 1) := by decide +kernel
theorem dX11_sea_35 : decode cX11_sea 35 = .ok (.iconst (-1), 1) := by decide +kernel
theorem dX11_sea_36 : decode cX11_sea 36 = .ok (.if_icmp .ne 13, 3) := by decide +kernel
theorem dX11_sea_49 : decode cX11_sea 49 = .ok (.aload_n 0, 1) := by decide +kernel
theorem dX11_sea_50 : decode cX11_sea 50 = .ok (.getfield 30, 3) := by decide +kernel
theorem dX11_sea_53 : decode cX11_sea 53 = .ok (.aload_n 0, 1) := by decide +kernel
theorem dX11_sea_54 : decode cX11_sea 54 = .ok (.getfield 26, 3) := by decide +kernel
theorem dX11_sea_57 : decode cX11_sea 57 = .ok (.invokestatic 129, 3) := by decide +kernel
theorem dX11_sea_60 : decode cX11_sea 60 = .ok (.aload_n 0, 1) := by decide +kernel
theorem dX11_sea_61 : decode cX11_sea 61 = .ok (.getfield 50, 3) := by decide +kernel
theorem dX11_sea_64 : decode cX11_sea 64 = .ok (.invokevirtual 133, 3) := by decide +kernel
theorem dX11_sea_67 : decode cX11_sea 67 = .ok (.aload_n 0, 1) := by decide +kernel
theorem dX11_sea_68 : decode cX11_sea 68 = .ok (.getfield 88, 3) := by decide +kernel
theorem dX11_sea_71 : decode cX11_sea 71 = .ok (.invokevirtual 136, 3) := by decide +kernel
theorem dX11_sea_74 : decode cX11_sea 74 = .ok (.iload_n 1, 1) := by decide +kernel
theorem dX11_sea_75 : decode cX11_sea 75 = .ok (.ireturn, 1) := by decide +kernel
theorem dX11_sea_39 : decode cX11_sea 39 = .ok (.iconst (-1), 1) := by decide +kernel
theorem dX11_sea_40 : decode cX11_sea 40 = .ok (.aload_n 0, 1) := by decide +kernel
theorem dX11_sea_41 : decode cX11_sea 41 = .ok (.getfield 10, 3) := by decide +kernel
theorem dX11_sea_44 : decode cX11_sea 44 = .ok (.getfield 126, 3) := by decide +kernel
theorem dX11_sea_47 : decode cX11_sea 47 = .ok (.isub, 1) := by decide +kernel
theorem dX11_sea_48 : decode cX11_sea 48 = .ok (.ireturn, 1) := by decide +kernel
theorem dX11_book_0 : decode cX11_book 0 = .ok (.iload_n 1, 1) := by decide +kernel
theorem dX11_book_1 : decode cX11_book 1 = .ok (.ifCond .eq 12, 3) := by decide +kernel
theorem dX11_book_13 : decode cX11_book 13 = .ok (.aload_n 0, 1) := by decide +kernel
theorem dX11_book_14 : decode cX11_book 14 = .ok (.sipush 400, 3) := by decide +kernel
theorem dX11_book_17 : decode cX11_book 17 = .ok (.invokevirtual 116, 3) := by decide +kernel
theorem dX11_book_20 : decode cX11_book 20 = .ok (.aload_n 0, 1) := by decide +kernel
theorem dX11_book_21 : decode cX11_book 21 = .ok (.getfield 43, 3) := by decide +kernel
theorem dX11_book_24 : decode cX11_book 24 = .ok (.aload_n 0, 1) := by decide +kernel
theorem dX11_book_25 : decode cX11_book 25 = .ok (.getfield 10, 3) := by decide +kernel
theorem dX11_book_28 : decode cX11_book 28 = .ok (.aload_n 0, 1) := by decide +kernel
theorem dX11_book_29 : decode cX11_book 29 = .ok (.getfield 26, 3) := by decide +kernel
theorem dX11_book_32 : decode cX11_book 32 = .ok (.invokevirtual 346, 3) := by decide +kernel
theorem dX11_book_35 : decode cX11_book 35 = .ok (.istore_n 2, 1) := by decide +kernel
theorem dX11_book_36 : decode cX11_book 36 = .ok (.aload_n 0, 1) := by decide +kernel
theorem dX11_book_37 : decode cX11_book 37 = .ok (.aload_n 0, 1) := by decide +kernel
theorem dX11_book_38 : decode cX11_book 38 = .ok (.getfield 10, 3) := by decide +kernel
theorem dX11_book_41 : decode cX11_book 41 = .ok (.getfield 123, 3) := by decide +kernel
theorem dX11_book_44 : decode cX11_book 44 = .ok (.putfield 20, 3) := by decide +kernel
theorem dX11_book_47 : decode cX11_book 47 = .ok (.iload_n 2, 1) := by decide +kernel
theorem dX11_book_48 : decode cX11_book 48 = .ok (.ifCond .ne 14, 3) := by decide +kernel
theorem dX11_book_62 : decode cX11_book 62 = .ok (.aload_n 0, 1) := by decide +kernel
theorem dX11_book_63 : decode cX11_book 63 = .ok (.getfield 26, 3) := by decide +kernel
theorem dX11_book_66 : decode cX11_book 66 = .ok (.aload_n 0, 1) := by decide +kernel
theorem dX11_book_67 : decode cX11_book 67 = .ok (.getfield 30, 3) := by decide +kernel
theorem dX11_book_70 : decode cX11_book 70 = .ok (.invokestatic 129, 3) := by decide +kernel
theorem dX11_book_73 : decode cX11_book 73 = .ok (.aload_n 0, 1) := by decide +kernel
theorem dX11_book_74 : decode cX11_book 74 = .ok (.getfield 43, 3) := by decide +kernel
theorem dX11_book_77 : decode cX11_book 77 = .ok (.aload_n 0, 1) := by decide +kernel
theorem dX11_book_78 : decode cX11_book 78 = .ok (.getfield 30, 3) := by decide +kernel
theorem dX11_book_81 : decode cX11_book 81 = .ok (.invokevirtual 349, 3) := by decide +kernel
theorem dX11_book_84 : decode cX11_book 84 = .ok (.istore_n 3, 1) := by decide +kernel
theorem dX11_book_85 : decode cX11_book 85 = .ok (.iload_n 1, 1) := by decide +kernel
theorem dX11_book_86 : decode cX11_book 86 = .ok (.iconst 1, 1) := by decide +kernel
theorem dX11_book_87 : decode cX11_book 87 = .ok (.if_icmp .ne 25, 3) := by decide +kernel
theorem dX11_book_112 : decode cX11_book 112 = .ok (.iload_n 3, 1) := by decide +kernel
theorem dX11_book_113 : decode cX11_book 113 = .ok (.ireturn, 1) := by decide +kernel
theorem dX11_book_90 : decode cX11_book 90 = .ok (.aload_n 0, 1) := by decide +kernel
theorem dX11_book_91 : decode cX11_book 91 = .ok (.getfield 88, 3) := by decide +kernel
theorem dX11_book_94 : decode cX11_book 94 = .ok (.aload_n 0, 1) := by decide +kernel
theorem dX11_book_95 : decode cX11_book 95 = .ok (.getfield 26, 3) := by decide +kernel
theorem dX11_book_98 : decode cX11_book 98 = .ok (.invokevirtual 219, 3) := by decide +kernel
theorem dX11_book_101 : decode cX11_book 101 = .ok (.aload_n 0, 1) := by decide +kernel
theorem dX11_book_102 : decode cX11_book 102 = .ok (.getfield 30, 3) := by decide +kernel
theorem dX11_book_105 : decode cX11_book 105 = .ok (.aload_n 0, 1) := by decide +kernel
theorem dX11_book_106 : decode cX11_book 106 = .ok (.getfield 26, 3) := by decide +kernel
theorem dX11_book_109 : decode cX11_book 109 = .ok (.invokestatic 129, 3) := by decide +kernel
theorem dX11_book_51 : decode cX11_book 51 = .ok (.bipush (-2), 2) := by decide +kernel
theorem dX11_book_53 : decode cX11_book 53 = .ok (.aload_n 0, 1) := by decide +kernel
theorem dX11_book_54 : decode cX11_book 54 = .ok (.getfield 10, 3) := by decide +kernel
theorem dX11_book_57 : decode cX11_book 57 = .ok (.getfield 126, 3) := by decide +kernel
theorem dX11_book_60 : decode cX11_book 60 = .ok (.isub, 1) := by decide +kernel
theorem dX11_book_61 : decode cX11_book 61 = .ok (.ireturn, 1) := by decide +kernel
theorem dX11_book_4 : decode cX11_book 4 = .ok (.iload_n 1, 1) := by decide +kernel
theorem dX11_book_5 : decode cX11_book 5 = .ok (.iconst 1, 1) := by decide +kernel
theorem dX11_book_6 : decode cX11_book 6 = .ok (.if_icmp .eq 7, 3) := by decide +kernel
theorem dX11_book_9 : decode cX11_book 9 = .ok (.sipush (-1000), 3) := by decide +kernel
theorem dX11_book_12 : decode cX11_book 12 = .ok (.ireturn, 1) := by decide +kernel
theorem dX11_told_0 : decode cX11_told 0 = .ok (.aload_n 0, 1) := by decide +kernel
theorem dX11_told_1 : decode cX11_told 1 = .ok (.getfield 43, 3) := by decide +kernel
theorem dX11_told_4 : decode cX11_told 4 = .ok (.iload_n 1, 1) := by decide +kernel
theorem dX11_told_5 : decode cX11_told 5 = .ok (.invokevirtual 352, 3) := by decide +kernel
theorem dX11_told_8 : decode cX11_told 8 = .ok (.ireturn, 1) := by decide +kernel
theorem dX11_sentence_0 : decode cX11_sentence 0 = .ok (.aload_n 0, 1) := by decide +kernel
theorem dX11_sentence_1 : decode cX11_sentence 1 = .ok (.sipush 200, 3) := by decide +kernel
theorem dX11_sentence_4 : decode cX11_sentence 4 = .ok (.invokevirtual 116, 3) := by decide +kernel
theorem dX11_sentence_7 : decode cX11_sentence 7 = .ok (.aload_n 0, 1) := by decide +kernel
theorem dX11_sentence_8 : decode cX11_sentence 8 = .ok (.getfield 54, 3) := by decide +kernel
theorem dX11_sentence_11 : decode cX11_sentence 11 = .ok (.aload_n 0, 1) := by decide +kernel
theorem dX11_sentence_12 : decode cX11_sentence 12 = .ok (.getfield 10, 3) := by decide +kernel
theorem dX11_sentence_15 : decode cX11_sentence 15 = .ok (.aload_n 0, 1) := by decide +kernel
theorem dX11_sentence_16 : decode cX11_sentence 16 = .ok (.getfield 26, 3) := by decide +kernel
theorem dX11_sentence_19 : decode cX11_sentence 19 = .ok (.invokevirtual 355, 3) := by decide +kernel
theorem dX11_sentence_22 : decode cX11_sentence 22 = .ok (.istore_n 1, 1) := by decide +kernel
theorem dX11_sentence_23 : decode cX11_sentence 23 = .ok (.aload_n 0, 1) := by decide +kernel
theorem dX11_sentence_24 : decode cX11_sentence 24 = .ok (.aload_n 0, 1) := by decide +kernel
theorem dX11_sentence_25 : decode cX11_sentence 25 = .ok (.getfield 10, 3) := by decide +kernel
theorem dX11_sentence_28 : decode cX11_sentence 28 = .ok (.getfield 123, 3) := by decide +kernel
theorem dX11_sentence_31 : decode cX11_sentence 31 = .ok (.putfield 20, 3) := by decide +kernel
theorem dX11_sentence_34 : decode cX11_sentence 34 = .ok (.iload_n 1, 1) := by decide +kernel
theorem dX11_sentence_35 : decode cX11_sentence 35 = .ok (.ifCond .ne 13, 3) := by decide +kernel
theorem dX11_sentence_48 : decode cX11_sentence 48 = .ok (.aload_n 0, 1) := by decide +kernel
theorem dX11_sentence_49 : decode cX11_sentence 49 = .ok (.getfield 54, 3) := by decide +kernel
theorem dX11_sentence_52 : decode cX11_sentence 52 = .ok (.aload_n 0, 1) := by decide +kernel
theorem dX11_sentence_53 : decode cX11_sentence 53 = .ok (.getfield 50, 3) := by decide +kernel
theorem dX11_sentence_56 : decode cX11_sentence 56 = .ok (.invokestatic 356, 3) := by decide +kernel
theorem dX11_sentence_59 : decode cX11_sentence 59 = .ok (.aload_n 0, 1) := by decide +kernel
theorem dX11_sentence_60 : decode cX11_sentence 60 = .ok (.getfield 50, 3) := by decide +kernel
theorem dX11_sentence_63 : decode cX11_sentence 63 = .ok (.getfield 359, 3) := by decide +kernel
theorem dX11_sentence_66 : decode cX11_sentence 66 = .ok (.ireturn, 1) := by decide +kernel
theorem dX11_sentence_38 : decode cX11_sentence 38 = .ok (.iconst (-1), 1) := by decide +kernel
theorem dX11_sentence_39 : decode cX11_sentence 39 = .ok (.aload_n 0, 1) := by decide +kernel
theorem dX11_sentence_40 : decode cX11_sentence 40 = .ok (.getfield 10, 3) := by decide +kernel
theorem dX11_sentence_43 : decode cX11_sentence 43 = .ok (.getfield 126, 3) := by decide +kernel
theorem dX11_sentence_46 : decode cX11_sentence 46 = .ok (.isub, 1) := by decide +kernel
theorem dX11_sentence_47 : decode cX11_sentence 47 = .ok (.ireturn, 1) := by decide +kernel
theorem dX11_said_0 : decode cX11_said 0 = .ok (.aload_n 0, 1) := by decide +kernel
theorem dX11_said_1 : decode cX11_said 1 = .ok (.getfield 50, 3) := by decide +kernel
theorem dX11_said_4 : decode cX11_said 4 = .ok (.invokevirtual 362, 3) := by decide +kernel
theorem dX11_said_7 : decode cX11_said 7 = .ok (.ifCond .ne 5, 3) := by decide +kernel
theorem dX11_said_12 : decode cX11_said 12 = .ok (.iconst 0, 1) := by decide +kernel
theorem dX11_said_13 : decode cX11_said 13 = .ok (.istore_n 2, 1) := by decide +kernel
theorem dX11_said_14 : decode cX11_said 14 = .ok (.iconst 0, 1) := by decide +kernel
theorem dX11_said_15 : decode cX11_said 15 = .ok (.istore_n 3, 1) := by decide +kernel
theorem dX11_said_16 : decode cX11_said 16 = .ok (.iload_n 3, 1) := by decide +kernel
theorem dX11_said_17 : decode cX11_said 17 = .ok (.aload_n 0, 1) := by decide +kernel
theorem dX11_said_18 : decode cX11_said 18 = .ok (.getfield 26, 3) := by decide +kernel
theorem dX11_said_21 : decode cX11_said 21 = .ok (.getfield 206, 3) := by decide +kernel
theorem dX11_said_24 : decode cX11_said 24 = .ok (.if_icmp .ge 34, 3) := by decide +kernel
theorem dX11_said_58 : decode cX11_said 58 = .ok (.iload_n 1, 1) := by decide +kernel
theorem dX11_said_59 : decode cX11_said 59 = .ok (.iconst (-1), 1) := by decide +kernel
theorem dX11_said_60 : decode cX11_said 60 = .ok (.if_icmp .ne 7, 3) := by decide +kernel
theorem dX11_said_67 : decode cX11_said 67 = .ok (.iconst (-1), 1) := by decide +kernel
theorem dX11_said_68 : decode cX11_said 68 = .ok (.ireturn, 1) := by decide +kernel
theorem dX11_said_63 : decode cX11_said 63 = .ok (.iload_n 2, 1) := by decide +kernel
theorem dX11_said_64 : decode cX11_said 64 = .ok (.goto 4, 3) := by decide +kernel
theorem dX11_said_27 : decode cX11_said 27 = .ok (.aload_n 0, 1) := by decide +kernel
theorem dX11_said_28 : decode cX11_said 28 = .ok (.getfield 50, 3) := by decide +kernel
theorem dX11_said_31 : decode cX11_said 31 = .ok (.aload_n 0, 1) := by decide +kernel
theorem dX11_said_32 : decode cX11_said 32 = .ok (.getfield 26, 3) := by decide +kernel
theorem dX11_said_35 : decode cX11_said 35 = .ok (.iload_n 3, 1) := by decide +kernel
theorem dX11_said_36 : decode cX11_said 36 = .ok (.invokevirtual 365, 3) := by decide +kernel
theorem dX11_said_39 : decode cX11_said 39 = .ok (.ifCond .eq 13, 3) := by decide +kernel
theorem dX11_said_52 : decode cX11_said 52 = .ok (.iinc 3 1, 3) := by decide +kernel
theorem dX11_said_55 : decode cX11_said 55 = .ok (.goto (-39), 3) := by decide +kernel
theorem dX11_said_42 : decode cX11_said 42 = .ok (.iload_n 2, 1) := by decide +kernel
theorem dX11_said_43 : decode cX11_said 43 = .ok (.iload_n 1, 1) := by decide +kernel
theorem dX11_said_44 : decode cX11_said 44 = .ok (.if_icmp .ne 5, 3) := by decide +kernel
theorem dX11_said_49 : decode cX11_said 49 = .ok (.iinc 2 1, 3) := by decide +kernel
theorem dX11_said_47 : decode cX11_said 47 = .ok (.iload_n 3, 1) := by decide +kernel
theorem dX11_said_48 : decode cX11_said 48 = .ok (.ireturn, 1) := by decide +kernel
theorem dX11_said_10 : decode cX11_said 10 = .ok (.iconst (-1), 1) := by decide +kernel
theorem dX11_said_11 : decode cX11_said 11 = .ok (.ireturn, 1) := by decide +kernel
set_option maxRecDepth 100000 in
theorem ggX11_sea_X11_openTape : GoodIn wsX11_sea wsX11_openTape := goodIn_r _ [14, 2, 15, 16, 17, 18, 19, 20, 21, 22, 23, 24, 25, 26, 27, 28, 29, 30, 31, 32, 33, 34, 35, 36, 37, 38, 39, 40, 41, 42, 43, 44, 45, 46, 47, 48, 49, 50, 51, 52, 53, 54, 55, 56, 57, 58, 59, 60, 61, 62, 63, 64, 65, 66, 67, 68, 69, 70, 71, 72, 73, 74, 75, 76, 77, 78, 79, 80, 81, 82, 83, 84, 85, 86, 87, 88, 89, 90, 91, 92, 93, 94, 95, 96, 97, 98, 99, 100, 101, 102, 103, 104, 105, 106, 243, 244, 245, 246, 247, 248, 249, 250, 251, 252, 253, 254, 255, 256, 257, 258, 259, 260, 261, 262, 263, 264, 265, 266, 267, 268, 269, 270, 271] rfl (by decide +kernel)
set_option maxRecDepth 100000 in
theorem ggX11_sea_X8_read : GoodIn wsX11_sea wsX8_read := goodIn_r _ [111, 112, 113, 114, 115, 116, 117, 118, 119, 120, 121, 122, 123, 124, 125, 126, 127, 128, 129, 130, 131, 132, 19, 133, 36, 134, 135, 136, 110, 137, 138, 139, 140, 141, 142, 143, 35, 144, 145, 146, 147, 28, 29, 148, 31, 32, 33, 27, 25, 34, 26, 37, 38, 39, 40, 41, 42, 43, 44, 45, 46, 47, 48, 49, 50, 51, 52, 53, 54, 55, 56, 57, 58, 59, 60, 61, 62, 63, 64, 65, 66, 67, 68, 69, 70, 71, 72, 73, 74, 75, 76, 77, 78, 79, 80, 81, 82, 83, 84, 85, 86, 87, 88, 89, 90, 91, 92, 93, 94, 95, 96, 97, 98, 99, 100, 101, 102, 103, 104, 105, 106, 149, 150, 151, 152, 153, 30, 154, 155, 156, 157, 158, 159, 160, 161, 162, 163, 164, 165, 166, 167, 168, 169, 170, 171, 172, 173, 174, 175, 176, 177, 178, 179, 180, 181, 182, 183, 184, 185, 186, 187, 188, 189, 190, 191, 192, 193, 194, 195, 196, 197, 198, 199, 200, 201, 202, 203, 204, 205, 206, 207, 208, 209, 210, 211, 212, 213, 214, 215, 216, 217, 218, 219, 220, 221, 222, 272, 261, 262, 263, 264, 265, 266, 267, 268, 269, 270, 271, 273, 274, 275, 276, 277, 278, 279, 280, 281, 282, 283, 284, 285, 286, 287, 288, 289, 290, 291] rfl (by decide +kernel)
set_option maxRecDepth 100000 in
theorem ggX11_sea_X7_copy : GoodIn wsX11_sea wsX7_copy := goodIn_r _ [225, 119, 120, 121, 122, 123, 124, 125, 126, 127, 128, 129, 226, 227, 228, 229, 188, 172, 193, 207, 208, 209, 210, 211, 273, 274, 275, 276, 277, 278, 279, 280, 281, 282, 283, 284, 285, 286, 287, 288, 289, 290, 291] rfl (by decide +kernel)
set_option maxRecDepth 100000 in
theorem ggX11_sea_X9_forget : GoodIn wsX11_sea wsX9_forget := goodIn_r _ [234, 235, 236, 292, 293, 294] rfl (by decide +kernel)
set_option maxRecDepth 100000 in
theorem ggX11_sea_X2_forget : GoodIn wsX11_sea wsX2_forget := goodIn_r _ [241, 242, 295, 296, 297] rfl (by decide +kernel)
set_option maxRecDepth 100000 in
theorem ggX11_book_X11_openTape : GoodIn wsX11_book wsX11_openTape := goodIn_r _ [13, 2, 14, 15, 16, 17, 18, 19, 20, 21, 22, 23, 24, 25, 26, 27, 28, 29, 30, 31, 32, 33, 34, 35, 36, 37, 38, 39, 40, 41, 42, 43, 44, 45, 46, 47, 48, 49, 50, 51, 52, 53, 54, 55, 56, 57, 58, 59, 60, 61, 62, 63, 64, 65, 66, 67, 68, 69, 70, 71, 72, 73, 74, 75, 76, 77, 78, 79, 80, 81, 82, 83, 84, 85, 86, 87, 88, 89, 90, 91, 92, 93, 94, 95, 96, 97, 98, 99, 100, 101, 102, 103, 104, 105, 322, 323, 324, 325, 326, 327, 328, 329, 330, 331, 332, 333, 334, 335, 336, 337, 338, 339, 340, 341, 342, 343, 344, 345, 346, 347, 348, 349, 350] rfl (by decide +kernel)
set_option maxRecDepth 100000 in
theorem ggX11_book_X0_read : GoodIn wsX11_book wsX0_read := goodIn_r _ [110, 111, 112, 113, 114, 115, 116, 18, 117, 35, 118, 119, 109, 120, 121, 122, 123, 124, 125, 126, 127, 128, 129, 130, 131, 34, 132, 133, 134, 135, 27, 28, 136, 30, 31, 32, 26, 24, 33, 25, 36, 37, 38, 39, 40, 41, 42, 43, 44, 45, 46, 47, 48, 49, 50, 51, 52, 53, 54, 55, 56, 57, 58, 59, 60, 61, 62, 63, 64, 65, 66, 67, 68, 69, 70, 71, 72, 73, 74, 75, 76, 77, 78, 79, 80, 81, 82, 83, 84, 85, 86, 87, 88, 89, 90, 91, 92, 93, 94, 95, 96, 97, 98, 99, 100, 101, 102, 103, 104, 105, 137, 138, 139, 140, 141, 142, 143, 144, 145, 29, 146, 147, 148, 149, 150, 151, 152, 153, 154, 155, 156, 157, 158, 351, 352, 353, 354, 355, 356, 357, 340, 341, 342, 343, 344, 345, 346, 347, 348, 349, 350, 358, 359, 360, 361, 362, 363, 364, 365, 366, 367, 368, 369, 370, 371, 372, 373, 374, 375, 376] rfl (by decide +kernel)
set_option maxRecDepth 100000 in
theorem ggX11_book_X7_copy : GoodIn wsX11_book wsX7_copy := goodIn_r _ [161, 162, 163, 164, 165, 166, 167, 168, 169, 170, 126, 171, 172, 173, 174, 175, 176, 177, 127, 178, 179, 180, 181, 182, 358, 359, 360, 361, 362, 363, 364, 365, 366, 367, 368, 369, 370, 371, 372, 373, 374, 375, 376] rfl (by decide +kernel)
set_option maxRecDepth 100000 in
theorem ggX11_book_X0_live : GoodIn wsX11_book wsX0_live := goodIn_r _ [186, 111, 187, 188, 189, 190, 191, 192, 193, 194, 195, 109, 196, 154, 197, 198, 199, 200, 201, 202, 124, 203, 204, 205, 206, 207, 162, 163, 208, 209, 210, 211, 164, 166, 212, 213, 214, 215, 178, 181, 216, 217, 218, 219, 126, 220, 221, 222, 223, 182, 224, 225, 226, 227, 228, 229, 230, 231, 232, 233, 234, 235, 236, 237, 238, 239, 171, 240, 241, 242, 243, 244, 245, 246, 247, 248, 249, 250, 251, 252, 253, 254, 255, 167, 256, 257, 258, 259, 170, 177, 168, 260, 261, 262, 263, 264, 265, 266, 267, 268, 269, 270, 271, 272, 273, 274, 169, 275, 276, 277, 278, 279, 21, 22, 23, 280, 281, 282, 283, 284, 285, 286, 287, 288, 289, 290, 291, 292, 293, 294, 295, 180, 165, 296, 297, 298, 299, 300, 301, 302, 303, 179, 304, 305, 306, 307, 308, 309, 310, 311, 351, 352, 353, 354, 355, 356, 357, 358, 359, 360, 361, 362, 363, 364, 365, 366, 367, 368, 369, 370, 371, 372, 373, 374, 375, 376] rfl (by decide +kernel)
set_option maxRecDepth 100000 in
theorem ggX11_book_X2_keep : GoodIn wsX11_book wsX2_keep := goodIn_r _ [316, 317, 318, 319, 320, 21, 22, 23, 321, 160, 124, 161, 162, 163, 164, 165, 166, 167, 168, 169, 170, 126, 171, 172, 173, 174, 175, 176, 177, 127, 178, 179, 180, 181, 182, 377, 378, 379, 358, 359, 360, 361, 362, 363, 364, 365, 366, 367, 368, 369, 370, 371, 372, 373, 374, 375, 376] rfl (by decide +kernel)
set_option maxRecDepth 100000 in
theorem ggX11_told_X0_factThen : GoodIn wsX11_told wsX0_factThen := goodIn_r _ [6, 7, 8, 9, 10, 11, 30, 31, 32, 33, 34, 35, 36] rfl (by decide +kernel)
set_option maxRecDepth 100000 in
theorem ggX11_sentence_X11_openTape : GoodIn wsX11_sentence wsX11_openTape := goodIn_r _ [13, 2, 14, 15, 16, 17, 18, 19, 20, 21, 22, 23, 24, 25, 26, 27, 28, 29, 30, 31, 32, 33, 34, 35, 36, 37, 38, 39, 40, 41, 42, 43, 44, 45, 46, 47, 48, 49, 50, 51, 52, 53, 54, 55, 56, 57, 58, 59, 60, 61, 62, 63, 64, 65, 66, 67, 68, 69, 70, 71, 72, 73, 74, 75, 76, 77, 78, 79, 80, 81, 82, 83, 84, 85, 86, 87, 88, 89, 90, 91, 92, 93, 94, 95, 96, 97, 98, 99, 100, 101, 102, 103, 104, 105, 180, 181, 182, 183, 184, 185, 186, 187, 188, 189, 190, 191, 192, 193, 194, 195, 196, 197, 198, 199, 200, 201, 202, 203, 204, 205, 206, 207, 208] rfl (by decide +kernel)
set_option maxRecDepth 100000 in
theorem ggX11_sentence_X9_read : GoodIn wsX11_sentence wsX9_read := goodIn_r _ [110, 111, 112, 113, 114, 109, 115, 116, 117, 118, 119, 120, 121, 122, 123, 124, 125, 126, 127, 18, 128, 35, 129, 30, 31, 32, 26, 24, 33, 34, 25, 36, 37, 38, 39, 40, 41, 42, 43, 44, 45, 46, 47, 48, 49, 50, 51, 52, 53, 54, 55, 56, 57, 58, 59, 60, 61, 62, 63, 64, 65, 66, 67, 68, 69, 70, 71, 72, 73, 74, 75, 76, 77, 78, 79, 80, 81, 82, 83, 84, 85, 86, 87, 88, 89, 90, 91, 92, 93, 94, 95, 96, 97, 98, 99, 100, 101, 102, 103, 104, 105, 130, 131, 132, 133, 134, 135, 136, 137, 138, 139, 140, 141, 142, 143, 144, 145, 146, 147, 27, 28, 148, 149, 150, 151, 152, 29, 153, 154, 155, 156, 157, 158, 159, 160, 161, 162, 163, 164, 165, 166, 167, 168, 169, 170, 171, 172, 198, 199, 200, 201, 202, 203, 204, 205, 206, 207, 208, 209, 210, 211, 212, 213, 214, 215, 216, 217, 218, 219, 220, 221, 222, 223, 224, 225, 226, 227, 228, 229, 230] rfl (by decide +kernel)
set_option maxRecDepth 100000 in
theorem ggX11_sentence_X9_copy : GoodIn wsX11_sentence wsX9_copy := goodIn_r _ [175, 134, 176, 177, 178, 179, 116, 117, 209, 210, 211] rfl (by decide +kernel)
set_option maxRecDepth 100000 in
theorem ggX11_said_X9_isThere : GoodIn wsX11_said wsX9_isThere := goodIn_r _ [8, 9, 115, 116, 117] rfl (by decide +kernel)
set_option maxRecDepth 100000 in
theorem ggX11_said_X9_holds : GoodIn wsX11_said wsX9_holds := goodIn_r _ [13, 9, 14, 15, 16, 7, 17, 18, 19, 20, 21, 22, 23, 24, 25, 26, 27, 28, 29, 30, 31, 32, 33, 34, 35, 36, 37, 38, 39, 40, 41, 42, 43, 44, 45, 46, 47, 48, 49, 50, 51, 52, 53, 54, 55, 56, 57, 58, 59, 60, 61, 62, 63, 64, 65, 66, 67, 68, 69, 70, 71, 72, 73, 74, 75, 76, 77, 115, 116, 117, 96, 97, 98, 99, 100, 101, 102, 103, 104, 105, 106, 107, 108, 109, 110, 111, 112, 113, 114] rfl (by decide +kernel)
set_option maxRecDepth 100000 in
theorem gX11_sea_X11_openTape : GoodIn wsX11_sea (wsV RX11 116 RX11 yX11_openTape wsX11_openTape) := goodIn_app (goodIn_of _ (by decide +kernel)) ggX11_sea_X11_openTape
set_option maxRecDepth 100000 in
theorem gX11_sea_X8_read : GoodIn wsX11_sea (wsV RX11 119 RX8 yX8_read wsX8_read) := goodIn_app (goodIn_of _ (by decide +kernel)) ggX11_sea_X8_read
set_option maxRecDepth 100000 in
theorem gX11_sea_X7_copy : GoodIn wsX11_sea (va_wsS RX11 129 yX7_copy wsX7_copy) := goodIn_app (goodIn_of _ (by decide +kernel)) ggX11_sea_X7_copy
set_option maxRecDepth 100000 in
theorem gX11_sea_X9_forget : GoodIn wsX11_sea (wsV RX11 133 RX9 yX9_forget wsX9_forget) := goodIn_app (goodIn_of _ (by decide +kernel)) ggX11_sea_X9_forget
set_option maxRecDepth 100000 in
theorem gX11_sea_X2_forget : GoodIn wsX11_sea (wsV RX11 136 RX2 yX2_forget wsX2_forget) := goodIn_app (goodIn_of _ (by decide +kernel)) ggX11_sea_X2_forget
set_option maxRecDepth 100000 in
theorem gX11_book_X11_openTape : GoodIn wsX11_book (wsV RX11 116 RX11 yX11_openTape wsX11_openTape) := goodIn_app (goodIn_of _ (by decide +kernel)) ggX11_book_X11_openTape
set_option maxRecDepth 100000 in
theorem gX11_book_X0_read : GoodIn wsX11_book (wsV RX11 346 RX0 yX0_read wsX0_read) := goodIn_app (goodIn_of _ (by decide +kernel)) ggX11_book_X0_read
set_option maxRecDepth 100000 in
theorem gX11_book_X7_copy : GoodIn wsX11_book (va_wsS RX11 129 yX7_copy wsX7_copy) := goodIn_app (goodIn_of _ (by decide +kernel)) ggX11_book_X7_copy
set_option maxRecDepth 100000 in
theorem gX11_book_X0_live : GoodIn wsX11_book (wsV RX11 349 RX0 yX0_live wsX0_live) := goodIn_app (goodIn_of _ (by decide +kernel)) ggX11_book_X0_live
set_option maxRecDepth 100000 in
theorem gX11_book_X2_keep : GoodIn wsX11_book (wsV RX11 219 RX2 yX2_keep wsX2_keep) := goodIn_app (goodIn_of _ (by decide +kernel)) ggX11_book_X2_keep
set_option maxRecDepth 100000 in
theorem gX11_told_X0_factThen : GoodIn wsX11_told (wsV RX11 352 RX0 yX0_factThen wsX0_factThen) := goodIn_app (goodIn_of _ (by decide +kernel)) ggX11_told_X0_factThen
set_option maxRecDepth 100000 in
theorem gX11_sentence_X11_openTape : GoodIn wsX11_sentence (wsV RX11 116 RX11 yX11_openTape wsX11_openTape) := goodIn_app (goodIn_of _ (by decide +kernel)) ggX11_sentence_X11_openTape
set_option maxRecDepth 100000 in
theorem gX11_sentence_X9_read : GoodIn wsX11_sentence (wsV RX11 355 RX9 yX9_read wsX9_read) := goodIn_app (goodIn_of _ (by decide +kernel)) ggX11_sentence_X9_read
set_option maxRecDepth 100000 in
theorem gX11_sentence_X9_copy : GoodIn wsX11_sentence (va_wsS RX11 356 yX9_copy wsX9_copy) := goodIn_app (goodIn_of _ (by decide +kernel)) ggX11_sentence_X9_copy
set_option maxRecDepth 100000 in
theorem gX11_said_X9_isThere : GoodIn wsX11_said (wsV RX11 362 RX9 yX9_isThere wsX9_isThere) := goodIn_app (goodIn_of _ (by decide +kernel)) ggX11_said_X9_isThere
set_option maxRecDepth 100000 in
theorem gX11_said_X9_holds : GoodIn wsX11_said (wsV RX11 365 RX9 yX9_holds wsX9_holds) := goodIn_app (goodIn_of _ (by decide +kernel)) ggX11_said_X9_holds
set_option maxHeartbeats 4000000 in
set_option maxRecDepth 100000 in
theorem c_p_told (l : Launch) (dC : Nat → ClassId) (dI : Nat → Nat → Nat) (ky : Nat → ClassId) (t : Nat) (reader : Nat) (tapeLength : Nat) (latestFault : Int32) (sea : Nat) (spareSea : Nat) (seaText : Nat) (book : Nat) (sentence : Nat) (spareSentence : Nat) (route : Nat) (meeting : Nat) (sighting : Nat) (draws : Nat) (history : Nat) (images : Nat) (chartBytes : Nat) (chartLength : Nat) (fleetBits : Int32) (blines : Nat) (blineCount : Nat) (blived : Int32) (bwhyWrong : Int32) (bfineLines : Int32) (bdayThen : Int32) (beatenThen : Int32) (x : Int32) (iv_t_0 : tapeLength ≤ 940) (iv_t_1 : chartLength ≤ 32) (iv_bbook_0 : blineCount ≤ 40) : Met l yX11_told wsX11_told ({ frames := 1, cells := 0, slots := 0, locals := 21 }) (PcP dC dI ky [.ref t, .int x] [(t, .inr (11, [.ref reader, .int (nI tapeLength), .int latestFault, .ref sea, .ref spareSea, .ref seaText, .ref book, .ref sentence, .ref spareSentence, .ref route, .ref meeting, .ref sighting, .ref draws, .ref history, .ref images, .ref chartBytes, .int (nI chartLength), .int fleetBits])), (book, .inr (0, [.ref blines, .int (nI blineCount), .int blived, .int bwhyWrong, .int bfineLines, .int bdayThen, .int beatenThen]))]) (vp_Si (fun r : Int32 => True)) 0 0 (fun _ => False) := by
  refine Met.ofW (cc := cX11_told) (maxL := 2) (ret := (some .int)) (by decide) rfl ?_
  intro p e s m args below meth c s₁ B hml hv
  obtain ⟨rfl, hP, hK⟩ := hv
  have hx := B.exec
  have hb := B.bytes
  have hr := B.returns
  have hts := atoms_spec (ws := wsX11_told) B.pre
  have hown : s.vm.findClass RX11 = some m.cls := findClass_of_methodNamed B.named
  have hlocks := B.notSynchronized
  have hin11 : ∀ w ∈ u_ws RX11 TX11 18, w ∈ wsX11_told := by decide +kernel
  have hl := lv_entry ([.ref t, .int x]) (n := 2) (Nat.le_of_ble_eq_true rfl)
  rw [lg_entry_eq]
  generalize (lg_sl ([.ref t, .int x]) ++ List.replicate (2 - (lg_sl ([.ref t, .int x])).length) Slot.unset).toArray = ls at hl ⊢
  have hl : lv_has ls 2 [(0, .ref t), (1, .int x)] := hl
  refine q_name (fun Q hQ => ?_)
  generalize ([.ref t, .int x] : List Value).toArray = args at hts hQ ⊢
  refine lv_aload_n hx hb dX11_told_0 rfl (lv_at hl 0 rfl) ?_
  refine va_get (D := (dC, dI)) (ci := 11) (v := .ref book) (C := RX11) (T := TX11) (N := 18) hx hb hts hin11 hown hK hP 0 rfl rfl 6 (by decide) (hts (.fieldLink RX11 43 "PorridgeSea" "book" "LPorridgeSea$Book;") (List.mem_of_getElem? (i := 1) rfl)) (fun _ h9 => h9) rfl dX11_told_1 ?_
  refine lv_iload_n hx hb dX11_told_4 rfl (lv_at hl 1 rfl) ?_
  refine vp_callSi (W.runV (As := [.int x]) (rest := []) ⟨hx, hb, hml, hown, hts⟩ (c_b_factThen l dC dI ky book blines blineCount blived bwhyWrong bfineLines bdayThen beatenThen x iv_bbook_0) (cwV 1 hts gX11_told_X0_factThen rfl rfl rfl (by decide +kernel) ⟨(Nat.le_of_ble_eq_true rfl), (Nat.le_of_ble_eq_true rfl)⟩) (pre_PV hK hP [1] rfl (ci := 0) (q0 := 1) rfl rfl) rfl rfl hl.1 rfl (lv_room (Nat.le_of_ble_eq_true rfl)) dX11_told_5 ⟨(Nat.le_of_ble_eq_true rfl), (Nat.le_of_ble_eq_true rfl)⟩) (fun r1 p2 => ?_)
  rw [hQ]
  exact W.iret (v := r1) hx hb hr (fun t9 ht9 hW9 => ⟨r1, rfl, trivial, ht9⟩) (fun _ h => absurd h List.not_mem_nil) dX11_told_8
set_option maxRecDepth 20000 in
theorem lf_p_said_1 (boats : Nat) (k11 : Nat) (n15 : Nat) (iv_sea_5 : boats ≤ 6) (j13 : k11 ≤ 6) (hm17 : 6 - k11 < n15 + 1) (c18 : k11 < boats) : (k11 + 1) ≤ 6 := by
  try simp only [ia_lt, ia_le, ia_eq, ia_m1, ia_0, ia_1, ne_eq, true_and, and_true, false_and, and_false, or_false, false_or, or_true, true_or, not_true_eq_false, not_false_eq_true] at *
  all_goals omega
set_option maxRecDepth 20000 in
theorem lf_p_said_2 (boats : Nat) (k11 : Nat) (n15 : Nat) (iv_sea_5 : boats ≤ 6) (j13 : k11 ≤ 6) (hm17 : 6 - k11 < n15 + 1) (c18 : k11 < boats) : 6 - (k11 + 1) < n15 := by
  try simp only [ia_lt, ia_le, ia_eq, ia_m1, ia_0, ia_1, ne_eq, true_and, and_true, false_and, and_false, or_false, false_or, or_true, true_or, not_true_eq_false, not_false_eq_true] at *
  all_goals omega
set_option maxRecDepth 20000 in
theorem lf_p_said_3 (boats : Nat) (k11 : Nat) (n15 : Nat) (iv_sea_5 : boats ≤ 6) (j13 : k11 ≤ 6) (hm17 : 6 - k11 < n15 + 1) (c18 : k11 < boats) : (k11 + 1) ≤ 6 := by
  try simp only [ia_lt, ia_le, ia_eq, ia_m1, ia_0, ia_1, ne_eq, true_and, and_true, false_and, and_false, or_false, false_or, or_true, true_or, not_true_eq_false, not_false_eq_true] at *
  all_goals omega
set_option maxRecDepth 20000 in
theorem lf_p_said_4 (boats : Nat) (k11 : Nat) (n15 : Nat) (iv_sea_5 : boats ≤ 6) (j13 : k11 ≤ 6) (hm17 : 6 - k11 < n15 + 1) (c18 : k11 < boats) : 6 - (k11 + 1) < n15 := by
  try simp only [ia_lt, ia_le, ia_eq, ia_m1, ia_0, ia_1, ne_eq, true_and, and_true, false_and, and_false, or_false, false_or, or_true, true_or, not_true_eq_false, not_false_eq_true] at *
  all_goals omega
set_option maxRecDepth 20000 in
theorem lf_p_said_5   : 0 ≤ 6 := by
  try simp only [ia_lt, ia_le, ia_eq, ia_m1, ia_0, ia_1, ne_eq, true_and, and_true, false_and, and_false, or_false, false_or, or_true, true_or, not_true_eq_false, not_false_eq_true] at *
  all_goals omega
set_option maxHeartbeats 4000000 in
set_option maxRecDepth 100000 in
theorem c_p_said (l : Launch) (dC : Nat → ClassId) (dI : Nat → Nat → Nat) (ky : Nat → ClassId) (t : Nat) (reader : Nat) (tapeLength : Nat) (latestFault : Int32) (sea : Nat) (spareSea : Nat) (seaText : Nat) (book : Nat) (sentence : Nat) (spareSentence : Nat) (route : Nat) (meeting : Nat) (sighting : Nat) (draws : Nat) (history : Nat) (images : Nat) (chartBytes : Nat) (chartLength : Nat) (fleetBits : Int32) (ccodes : Nat) (ccodeCount : Nat) (cones : Int32) (ccodesF : Nat → Int32) (wide : Nat) (high : Nat) (heat : Int32) (cools : Int32) (skinHeat : Int32) (today : Int32) (stirs : Int32) (steps : Int32) (lumps : Nat) (boats : Nat) (thickness : Nat) (lumpNames : Nat) (lumpCells : Nat) (boatNames : Nat) (boatCells : Nat) (loads : Nat) (spoons : Nat) (spoonsLeft : Nat) (depths : Nat) (thicknessF : Nat → Int32) (lumpCellsF : Nat → Int32) (boatCellsF : Nat → Int32) (loadsF : Nat → Int32) (spoonsF : Nat → Int32) (spoonsLeftF : Nat → Int32) (depthsF : Nat → Int32) (x : Int32) (iv_t_0 : tapeLength ≤ 940) (iv_t_1 : chartLength ≤ 32) (iv_csentence_0 : ccodeCount ≤ 40) (iv_sea_0 : 2 ≤ wide) (iv_sea_1 : wide ≤ 6) (iv_sea_2 : 2 ≤ high) (iv_sea_3 : high ≤ 6) (iv_sea_4 : lumps ≤ 6) (iv_sea_5 : boats ≤ 6) : Met l yX11_said wsX11_said ({ frames := 5, cells := 0, slots := 0, locals := 114 }) (PcP dC dI ky [.ref t, .int x] [(t, .inr (11, [.ref reader, .int (nI tapeLength), .int latestFault, .ref sea, .ref spareSea, .ref seaText, .ref book, .ref sentence, .ref spareSentence, .ref route, .ref meeting, .ref sighting, .ref draws, .ref history, .ref images, .ref chartBytes, .int (nI chartLength), .int fleetBits])), (sentence, .inr (9, [.ref ccodes, .int (nI ccodeCount), .int cones])), (ccodes, .inl (ky 0, 40, .inl ccodesF)), (sea, .inr (7, [.int (nI wide), .int (nI high), .int heat, .int cools, .int skinHeat, .int today, .int stirs, .int steps, .int (nI lumps), .int (nI boats), .ref thickness, .ref lumpNames, .ref lumpCells, .ref boatNames, .ref boatCells, .ref loads, .ref spoons, .ref spoonsLeft, .ref depths])), (thickness, .inl (ky 0, 36, .inl thicknessF)), (lumpCells, .inl (ky 0, 6, .inl lumpCellsF)), (boatCells, .inl (ky 0, 6, .inl boatCellsF)), (loads, .inl (ky 0, 6, .inl loadsF)), (spoons, .inl (ky 0, 6, .inl spoonsF)), (spoonsLeft, .inl (ky 0, 6, .inl spoonsLeftF)), (depths, .inl (ky 0, 6, .inl depthsF))]) (vp_Si (fun r : Int32 => True)) 0 0 (fun _ => False) := by
  refine Met.ofW (cc := cX11_said) (maxL := 4) (ret := (some .int)) (by decide) rfl ?_
  intro p e s m args below meth c s₁ B hml hv
  obtain ⟨rfl, hP, hK⟩ := hv
  have hx := B.exec
  have hb := B.bytes
  have hr := B.returns
  have hts := atoms_spec (ws := wsX11_said) B.pre
  have hown : s.vm.findClass RX11 = some m.cls := findClass_of_methodNamed B.named
  have hlocks := B.notSynchronized
  have hin7 : ∀ w ∈ u_ws RX7 TX7 19, w ∈ wsX11_said := by decide +kernel
  have hin11 : ∀ w ∈ u_ws RX11 TX11 18, w ∈ wsX11_said := by decide +kernel
  have hl := lv_entry ([.ref t, .int x]) (n := 4) (Nat.le_of_ble_eq_true rfl)
  rw [lg_entry_eq]
  generalize (lg_sl ([.ref t, .int x]) ++ List.replicate (4 - (lg_sl ([.ref t, .int x])).length) Slot.unset).toArray = ls at hl ⊢
  have hl : lv_has ls 4 [(0, .ref t), (1, .int x)] := hl
  refine q_name (fun Q hQ => ?_)
  generalize ([.ref t, .int x] : List Value).toArray = args at hts hQ ⊢
  refine lv_aload_n hx hb dX11_said_0 rfl (lv_at hl 0 rfl) ?_
  refine va_get (D := (dC, dI)) (ci := 11) (v := .ref sentence) (C := RX11) (T := TX11) (N := 18) hx hb hts hin11 hown hK hP 0 rfl rfl 7 (by decide) (hts (.fieldLink RX11 50 "PorridgeSea" "sentence" "LPorridgeSea$Sentence;") (List.mem_of_getElem? (i := 1) rfl)) (fun _ h9 => h9) rfl dX11_said_1 ?_
  refine vp_callSi (W.runV (As := []) (rest := []) ⟨hx, hb, hml, hown, hts⟩ (c_n_isThere l dC dI ky sentence ccodes ccodeCount cones iv_csentence_0) (cwV 0 hts gX11_said_X9_isThere rfl rfl rfl (by decide +kernel) ⟨(Nat.le_of_ble_eq_true rfl), (Nat.le_of_ble_eq_true rfl)⟩) (pre_PV hK hP [1] rfl (ci := 9) (q0 := 1) rfl rfl) rfl rfl hl.1 rfl (lv_room (Nat.le_of_ble_eq_true rfl)) dX11_said_4 ⟨(Nat.le_of_ble_eq_true rfl), (Nat.le_of_ble_eq_true rfl)⟩) (fun r1 p2 => ?_)
  refine lv_if_ne (tgt := 12) hx hb dX11_said_7 (by decide) (fun c3 => ?_) (fun c3 => ?_)
  · refine lv_iconst (v := nI 0) hx hb dX11_said_12 (by decide) ?_
    refine lv_istore_n (lv' := [(2, .int (nI 0)), (0, .ref t), (1, .int x)]) hx hb dX11_said_13 rfl hl (by decide) rfl (fun ls hl => ?_)
    refine lv_iconst (v := nI 0) hx hb dX11_said_14 (by decide) ?_
    refine lv_istore_n (lv' := [(3, .int (nI 0)), (2, .int (nI 0)), (0, .ref t), (1, .int x)]) hx hb dX11_said_15 rfl hl (by decide) rfl (fun ls hl => ?_)
    have hL14 : ∀ (n15 : Nat) (k11 : Nat) (k12 : Nat), (k11 ≤ 6) → 6 - k11 < n15 → ∀ (ls : Array Slot), lv_has ls 4 [(3, .int (nI k11)), (2, .int (nI k12)), (0, .ref t), (1, .int x)] → W p l e (headSpec wsX11_said ({ frames := 5, cells := 0, slots := 0, locals := 114 })).room s m args below meth c s.heap [] 0 0 Q (F0 m 16 ls []) := by
      intro n15
      induction n15 with
      | zero => intro k11 k12 _ h9; exact absurd h9 (Nat.not_lt_zero _)
      | succ n15 ih16 =>
        intro k11 k12 j13 hm17 ls hl
        refine lv_iload_n hx hb dX11_said_16 rfl (lv_at hl 0 rfl) ?_
        refine lv_aload_n hx hb dX11_said_17 rfl (lv_at hl 2 rfl) ?_
        refine va_get (D := (dC, dI)) (ci := 11) (v := .ref sea) (C := RX11) (T := TX11) (N := 18) hx hb hts hin11 hown hK hP 0 rfl rfl 3 (by decide) (hts (.fieldLink RX11 26 "PorridgeSea" "sea" "LPorridgeSea$Sea;") (List.mem_of_getElem? (i := 2) rfl)) (fun _ h9 => h9) rfl dX11_said_18 ?_
        refine va_get (D := (dC, dI)) (ci := 7) (v := .int (nI boats)) (C := RX7) (T := TX7) (N := 19) hx hb hts hin7 hown hK hP 3 rfl rfl 9 (by decide) (hts (.fieldLink RX11 206 "PorridgeSea$Sea" "boats" "I") (List.mem_of_getElem? (i := 3) rfl)) (fun _ h9 => h9) rfl dX11_said_21 ?_
        refine n_icmp_ge (x := k11) (y := boats) (tgt := 58) hx hb (by omega) (by omega) dX11_said_24 (by decide) (fun c18 => ?_) (fun c18 => ?_)
        · refine lv_iload_n hx hb dX11_said_58 rfl (lv_at hl 3 rfl) ?_
          refine lv_iconst (v := (-1 : Int32)) hx hb dX11_said_59 (by decide) ?_
          refine lv_icmp_ne (tgt := 67) hx hb dX11_said_60 (by decide) (fun c19 => ?_) (fun c19 => ?_)
          · refine lv_iconst (v := (-1 : Int32)) hx hb dX11_said_67 (by decide) ?_
            rw [hQ]
            exact W.iret (v := (-1 : Int32)) hx hb hr (fun t9 ht9 hW9 => ⟨(-1 : Int32), rfl, trivial, ht9⟩) (fun _ h => absurd h List.not_mem_nil) dX11_said_68
          · refine lv_iload_n hx hb dX11_said_63 rfl (lv_at hl 1 rfl) ?_
            refine lv_goto (tgt := 68) hx hb dX11_said_64 (by decide) ?_
            rw [hQ]
            exact W.iret (v := nI k12) hx hb hr (fun t9 ht9 hW9 => ⟨nI k12, rfl, trivial, ht9⟩) (fun _ h => absurd h List.not_mem_nil) dX11_said_68
        · refine lv_aload_n hx hb dX11_said_27 rfl (lv_at hl 2 rfl) ?_
          refine va_get (D := (dC, dI)) (ci := 11) (v := .ref sentence) (C := RX11) (T := TX11) (N := 18) hx hb hts hin11 hown hK hP 0 rfl rfl 7 (by decide) (hts (.fieldLink RX11 50 "PorridgeSea" "sentence" "LPorridgeSea$Sentence;") (List.mem_of_getElem? (i := 1) rfl)) (fun _ h9 => h9) rfl dX11_said_28 ?_
          refine lv_aload_n hx hb dX11_said_31 rfl (lv_at hl 2 rfl) ?_
          refine va_get (D := (dC, dI)) (ci := 11) (v := .ref sea) (C := RX11) (T := TX11) (N := 18) hx hb hts hin11 hown hK hP 0 rfl rfl 3 (by decide) (hts (.fieldLink RX11 26 "PorridgeSea" "sea" "LPorridgeSea$Sea;") (List.mem_of_getElem? (i := 2) rfl)) (fun _ h9 => h9) rfl dX11_said_32 ?_
          refine lv_iload_n hx hb dX11_said_35 rfl (lv_at hl 0 rfl) ?_
          refine vp_callSi (W.runV (As := [.ref sea, .int (nI k11)]) (rest := []) ⟨hx, hb, hml, hown, hts⟩ (c_n_holds l dC dI ky sentence ccodes ccodeCount cones ccodesF sea wide high heat cools skinHeat today stirs steps lumps boats thickness lumpNames lumpCells boatNames boatCells loads spoons spoonsLeft depths thicknessF lumpCellsF boatCellsF loadsF spoonsF spoonsLeftF depthsF (nI k11) iv_csentence_0 iv_sea_0 iv_sea_1 iv_sea_2 iv_sea_3 iv_sea_4 iv_sea_5) (cwV 2 hts gX11_said_X9_holds rfl rfl rfl (by decide +kernel) ⟨(Nat.le_of_ble_eq_true rfl), (Nat.le_of_ble_eq_true rfl)⟩) (pre_PV hK hP [1, 2, 3, 4, 5, 6, 7, 8, 9, 10] rfl (ci := 9) (q0 := 1) rfl rfl) rfl rfl hl.1 rfl (lv_room (Nat.le_of_ble_eq_true rfl)) dX11_said_36 ⟨(Nat.le_of_ble_eq_true rfl), (Nat.le_of_ble_eq_true rfl)⟩) (fun r20 p21 => ?_)
          refine lv_if_eq (tgt := 52) hx hb dX11_said_39 (by decide) (fun c22 => ?_) (fun c22 => ?_)
          · refine lv_iinc (v := nI (k11 + 1)) (lv' := [(3, .int (nI (k11 + 1))), (2, .int (nI k12)), (0, .ref t), (1, .int x)]) hx hb dX11_said_52 hl (k := 0) rfl (show nI k11 + nI 1 = nI (k11 + 1) from nI_add _ _) (by decide) rfl (fun ls hl => ?_)
            refine lv_goto (tgt := 16) hx hb dX11_said_55 (by decide) ?_
            exact ih16 (k11 + 1) k12 (lf_p_said_1 boats k11 n15 iv_sea_5 j13 hm17 c18) (lf_p_said_2 boats k11 n15 iv_sea_5 j13 hm17 c18) _ (lv_sub hl [0, 1, 2, 3] rfl)
          · refine lv_iload_n hx hb dX11_said_42 rfl (lv_at hl 1 rfl) ?_
            refine lv_iload_n hx hb dX11_said_43 rfl (lv_at hl 3 rfl) ?_
            refine lv_icmp_ne (tgt := 49) hx hb dX11_said_44 (by decide) (fun c23 => ?_) (fun c23 => ?_)
            · refine lv_iinc (v := nI (k12 + 1)) (lv' := [(2, .int (nI (k12 + 1))), (3, .int (nI k11)), (0, .ref t), (1, .int x)]) hx hb dX11_said_49 hl (k := 1) rfl (show nI k12 + nI 1 = nI (k12 + 1) from nI_add _ _) (by decide) rfl (fun ls hl => ?_)
              refine lv_iinc (v := nI (k11 + 1)) (lv' := [(3, .int (nI (k11 + 1))), (2, .int (nI (k12 + 1))), (0, .ref t), (1, .int x)]) hx hb dX11_said_52 hl (k := 1) rfl (show nI k11 + nI 1 = nI (k11 + 1) from nI_add _ _) (by decide) rfl (fun ls hl => ?_)
              refine lv_goto (tgt := 16) hx hb dX11_said_55 (by decide) ?_
              exact ih16 (k11 + 1) (k12 + 1) (lf_p_said_3 boats k11 n15 iv_sea_5 j13 hm17 c18) (lf_p_said_4 boats k11 n15 iv_sea_5 j13 hm17 c18) _ (lv_sub hl [0, 1, 2, 3] rfl)
            · refine lv_iload_n hx hb dX11_said_47 rfl (lv_at hl 0 rfl) ?_
              rw [hQ]
              exact W.iret (v := nI k11) hx hb hr (fun t9 ht9 hW9 => ⟨nI k11, rfl, trivial, ht9⟩) (fun _ h => absurd h List.not_mem_nil) dX11_said_48
    exact hL14 ((6 - 0) + 1) 0 0 (lf_p_said_5) (Nat.lt_succ_self _) _ (lv_sub hl [0, 1, 2, 3] rfl)
  · refine lv_iconst (v := (-1 : Int32)) hx hb dX11_said_10 (by decide) ?_
    rw [hQ]
    exact W.iret (v := (-1 : Int32)) hx hb hr (fun t9 ht9 hW9 => ⟨(-1 : Int32), rfl, trivial, ht9⟩) (fun _ h => absurd h List.not_mem_nil) dX11_said_11
