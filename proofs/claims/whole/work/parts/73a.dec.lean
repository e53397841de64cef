set_option maxRecDepth 20000 in
theorem ggX1_putName_X1_put : GoodIn wsX1_putName wsX1_put := goodIn_r _ [6, 7, 8, 9, 10] (by decide +kernel) (by decide +kernel)
set_option maxRecDepth 20000 in
theorem gX1_putName_X1_put : GoodIn wsX1_putName (wsV RX1 19 RX1 yX1_put wsX1_put) := goodIn_app (goodIn_of _ (by decide +kernel)) ggX1_putName_X1_put
theorem dX1_putName_0 : decode cX1_putName 0 = .ok (.bipush 35, 2) := by decide +kernel
theorem dX1_putName_2 : decode cX1_putName 2 = .ok (.istore_n 3, 1) := by decide +kernel
theorem dX1_putName_3 : decode cX1_putName 3 = .ok (.iload_n 3, 1) := by decide +kernel
theorem dX1_putName_4 : decode cX1_putName 4 = .ok (.ifCond .lt 35, 3) := by decide +kernel
theorem dX1_putName_7 : decode cX1_putName 7 = .ok (.lload_n 1, 1) := by decide +kernel
theorem dX1_putName_8 : decode cX1_putName 8 = .ok (.iload_n 3, 1) := by decide +kernel
theorem dX1_putName_9 : decode cX1_putName 9 = .ok (.lshr, 1) := by decide +kernel
theorem dX1_putName_10 : decode cX1_putName 10 = .ok (.ldc2_w 23, 3) := by decide +kernel
theorem dX1_putName_13 : decode cX1_putName 13 = .ok (.land, 1) := by decide +kernel
theorem dX1_putName_14 : decode cX1_putName 14 = .ok (.l2i, 1) := by decide +kernel
theorem dX1_putName_15 : decode cX1_putName 15 = .ok (.istore 4, 2) := by decide +kernel
theorem dX1_putName_17 : decode cX1_putName 17 = .ok (.iload 4, 2) := by decide +kernel
theorem dX1_putName_19 : decode cX1_putName 19 = .ok (.ifCond .le 14, 3) := by decide +kernel
theorem dX1_putName_22 : decode cX1_putName 22 = .ok (.aload_n 0, 1) := by decide +kernel
theorem dX1_putName_23 : decode cX1_putName 23 = .ok (.bipush 97, 2) := by decide +kernel
theorem dX1_putName_25 : decode cX1_putName 25 = .ok (.iload 4, 2) := by decide +kernel
theorem dX1_putName_27 : decode cX1_putName 27 = .ok (.iadd, 1) := by decide +kernel
theorem dX1_putName_28 : decode cX1_putName 28 = .ok (.iconst 1, 1) := by decide +kernel
theorem dX1_putName_29 : decode cX1_putName 29 = .ok (.isub, 1) := by decide +kernel
theorem dX1_putName_30 : decode cX1_putName 30 = .ok (.invokevirtual 19, 3) := by decide +kernel
theorem dX1_putName_33 : decode cX1_putName 33 = .ok (.iinc 3 (-5), 3) := by decide +kernel
theorem dX1_putName_36 : decode cX1_putName 36 = .ok (.goto (-33), 3) := by decide +kernel
theorem dX1_putName_39 : decode cX1_putName 39 = .ok (.return_, 1) := by decide +kernel
set_option maxRecDepth 20000 in
theorem ggX1_putNumber_X1_put : GoodIn wsX1_putNumber wsX1_put := goodIn_r _ [6, 7, 8, 9, 10] (by decide +kernel) (by decide +kernel)
set_option maxRecDepth 20000 in
theorem gX1_putNumber_X1_put : GoodIn wsX1_putNumber (wsV RX1 19 RX1 yX1_put wsX1_put) := goodIn_app (goodIn_of _ (by decide +kernel)) ggX1_putNumber_X1_put
theorem dX1_putNumber_0 : decode cX1_putNumber 0 = .ok (.iconst 0, 1) := by decide +kernel
theorem dX1_putNumber_1 : decode cX1_putNumber 1 = .ok (.istore_n 2, 1) := by decide +kernel
theorem dX1_putNumber_2 : decode cX1_putNumber 2 = .ok (.ldc 25, 2) := by decide +kernel
theorem dX1_putNumber_4 : decode cX1_putNumber 4 = .ok (.istore_n 3, 1) := by decide +kernel
theorem dX1_putNumber_5 : decode cX1_putNumber 5 = .ok (.iload_n 3, 1) := by decide +kernel
theorem dX1_putNumber_6 : decode cX1_putNumber 6 = .ok (.ifCond .le 52, 3) := by decide +kernel
theorem dX1_putNumber_9 : decode cX1_putNumber 9 = .ok (.iload_n 1, 1) := by decide +kernel
theorem dX1_putNumber_10 : decode cX1_putNumber 10 = .ok (.iload_n 3, 1) := by decide +kernel
theorem dX1_putNumber_11 : decode cX1_putNumber 11 = .ok (.idiv, 1) := by decide +kernel
theorem dX1_putNumber_12 : decode cX1_putNumber 12 = .ok (.bipush 10, 2) := by decide +kernel
theorem dX1_putNumber_14 : decode cX1_putNumber 14 = .ok (.irem, 1) := by decide +kernel
theorem dX1_putNumber_15 : decode cX1_putNumber 15 = .ok (.istore 4, 2) := by decide +kernel
theorem dX1_putNumber_17 : decode cX1_putNumber 17 = .ok (.iload_n 2, 1) := by decide +kernel
theorem dX1_putNumber_18 : decode cX1_putNumber 18 = .ok (.ifCond .ne 13, 3) := by decide +kernel
theorem dX1_putNumber_21 : decode cX1_putNumber 21 = .ok (.iload 4, 2) := by decide +kernel
theorem dX1_putNumber_23 : decode cX1_putNumber 23 = .ok (.ifCond .gt 8, 3) := by decide +kernel
theorem dX1_putNumber_26 : decode cX1_putNumber 26 = .ok (.iload_n 3, 1) := by decide +kernel
theorem dX1_putNumber_27 : decode cX1_putNumber 27 = .ok (.iconst 1, 1) := by decide +kernel
theorem dX1_putNumber_28 : decode cX1_putNumber 28 = .ok (.if_icmp .ne 7, 3) := by decide +kernel
theorem dX1_putNumber_31 : decode cX1_putNumber 31 = .ok (.iconst 1, 1) := by decide +kernel
theorem dX1_putNumber_32 : decode cX1_putNumber 32 = .ok (.goto 4, 3) := by decide +kernel
theorem dX1_putNumber_35 : decode cX1_putNumber 35 = .ok (.iconst 0, 1) := by decide +kernel
theorem dX1_putNumber_36 : decode cX1_putNumber 36 = .ok (.istore_n 2, 1) := by decide +kernel
theorem dX1_putNumber_37 : decode cX1_putNumber 37 = .ok (.iload_n 2, 1) := by decide +kernel
theorem dX1_putNumber_38 : decode cX1_putNumber 38 = .ok (.ifCond .eq 12, 3) := by decide +kernel
theorem dX1_putNumber_41 : decode cX1_putNumber 41 = .ok (.aload_n 0, 1) := by decide +kernel
theorem dX1_putNumber_42 : decode cX1_putNumber 42 = .ok (.bipush 48, 2) := by decide +kernel
theorem dX1_putNumber_44 : decode cX1_putNumber 44 = .ok (.iload 4, 2) := by decide +kernel
theorem dX1_putNumber_46 : decode cX1_putNumber 46 = .ok (.iadd, 1) := by decide +kernel
theorem dX1_putNumber_47 : decode cX1_putNumber 47 = .ok (.invokevirtual 19, 3) := by decide +kernel
theorem dX1_putNumber_50 : decode cX1_putNumber 50 = .ok (.iload_n 3, 1) := by decide +kernel
theorem dX1_putNumber_51 : decode cX1_putNumber 51 = .ok (.bipush 10, 2) := by decide +kernel
theorem dX1_putNumber_53 : decode cX1_putNumber 53 = .ok (.idiv, 1) := by decide +kernel
theorem dX1_putNumber_54 : decode cX1_putNumber 54 = .ok (.istore_n 3, 1) := by decide +kernel
theorem dX1_putNumber_55 : decode cX1_putNumber 55 = .ok (.goto (-50), 3) := by decide +kernel
theorem dX1_putNumber_58 : decode cX1_putNumber 58 = .ok (.return_, 1) := by decide +kernel
theorem dX1_byteAt_0 : decode cX1_byteAt 0 = .ok (.iload_n 1, 1) := by decide +kernel
theorem dX1_byteAt_1 : decode cX1_byteAt 1 = .ok (.ifCond .lt 31, 3) := by decide +kernel
theorem dX1_byteAt_4 : decode cX1_byteAt 4 = .ok (.iload_n 1, 1) := by decide +kernel
theorem dX1_byteAt_5 : decode cX1_byteAt 5 = .ok (.aload_n 0, 1) := by decide +kernel
theorem dX1_byteAt_6 : decode cX1_byteAt 6 = .ok (.getfield 15, 3) := by decide +kernel
theorem dX1_byteAt_9 : decode cX1_byteAt 9 = .ok (.if_icmp .ge 23, 3) := by decide +kernel
theorem dX1_byteAt_12 : decode cX1_byteAt 12 = .ok (.iload_n 1, 1) := by decide +kernel
theorem dX1_byteAt_13 : decode cX1_byteAt 13 = .ok (.sipush 900, 3) := by decide +kernel
theorem dX1_byteAt_16 : decode cX1_byteAt 16 = .ok (.if_icmp .ge 16, 3) := by decide +kernel
theorem dX1_byteAt_19 : decode cX1_byteAt 19 = .ok (.aload_n 0, 1) := by decide +kernel
theorem dX1_byteAt_20 : decode cX1_byteAt 20 = .ok (.getfield 9, 3) := by decide +kernel
theorem dX1_byteAt_23 : decode cX1_byteAt 23 = .ok (.iload_n 1, 1) := by decide +kernel
theorem dX1_byteAt_24 : decode cX1_byteAt 24 = .ok (.baload, 1) := by decide +kernel
theorem dX1_byteAt_25 : decode cX1_byteAt 25 = .ok (.sipush 255, 3) := by decide +kernel
theorem dX1_byteAt_28 : decode cX1_byteAt 28 = .ok (.iand, 1) := by decide +kernel
theorem dX1_byteAt_29 : decode cX1_byteAt 29 = .ok (.goto 4, 3) := by decide +kernel
theorem dX1_byteAt_32 : decode cX1_byteAt 32 = .ok (.iconst (-1), 1) := by decide +kernel
theorem dX1_byteAt_33 : decode cX1_byteAt 33 = .ok (.ireturn, 1) := by decide +kernel
set_option maxRecDepth 20000 in
theorem ggX7_load_X7_needRange : GoodIn wsX7_load wsX7_needRange := goodIn_ca (goodIn_r _ [12, 13, 14] (by decide +kernel) (by decide +kernel)) (goodIn_sub (fun _ h => List.mem_cons_of_mem _ (List.mem_append_right _ h)) (by decide +kernel))
set_option maxRecDepth 20000 in
theorem gX7_load_X7_needRange : GoodIn wsX7_load (va_wsS RX7 54 yX7_needRange wsX7_needRange) := goodIn_app (goodIn_of _ (by decide +kernel)) ggX7_load_X7_needRange
set_option maxRecDepth 20000 in
theorem ggX7_load_X5_readTree : GoodIn wsX7_load wsX5_readTree := goodIn_r _ [19, 20, 21, 22, 23, 24, 25, 26, 27, 28, 29, 30, 31, 32, 33, 34, 35, 36, 37, 38, 39, 40, 41, 42, 43, 44, 45, 46, 47, 48, 49, 50, 51, 52, 53, 54, 55, 56, 57, 58, 59, 60, 61, 62, 63, 64, 18, 65, 66, 67, 68, 69, 70, 71, 72, 73, 74, 75, 76, 77, 78, 79, 80, 81, 82, 83, 84, 85, 86, 87, 88, 89, 90, 91, 92, 93, 94, 95, 96, 97, 98, 99, 100, 11, 101, 102, 103, 104, 105, 106, 107, 108, 109, 110, 111, 112, 113, 114, 115, 116, 117, 118, 119, 120, 121, 122, 123, 124, 125, 126, 127, 128, 129, 130, 131, 132, 133, 134, 135, 136, 137, 138, 139, 140, 141, 142, 143, 144, 145, 146, 147, 148, 149, 150, 151, 152, 153, 154, 155, 156, 157, 158, 159, 160, 161, 295, 296, 297, 298, 299, 300, 301, 302, 303, 304, 305, 306, 307, 308, 309, 310, 311, 312, 313, 314, 315, 316, 317, 318, 319, 320, 321, 322, 323] (by decide +kernel) (by decide +kernel)
set_option maxRecDepth 20000 in
theorem gX7_load_X5_readTree : GoodIn wsX7_load (wsV RX7 58 RX5 yX5_readTree wsX5_readTree) := goodIn_app (goodIn_of _ (by decide +kernel)) ggX7_load_X5_readTree
set_option maxRecDepth 20000 in
theorem ggX7_load_X7_remember : GoodIn wsX7_load wsX7_remember := goodIn_r _ [165, 166, 167, 5, 168, 169, 22, 23, 24, 170, 171, 172, 173, 174, 175, 176, 33, 177, 35, 36, 38, 39, 41, 42, 178, 179, 180, 46, 181, 48, 182, 183, 184, 185, 49, 51, 52, 186, 187, 188, 148, 189, 155, 190, 156, 150, 191, 192, 193, 56, 194, 58, 195, 59, 60, 61, 196, 197, 198, 199, 200, 201, 202, 203, 204, 205, 206, 286, 287, 288, 289, 290, 291, 292, 302, 303, 304, 305, 306, 307, 316, 317, 318, 319, 308, 309, 310, 320, 321, 322, 323, 311, 312, 313, 314, 315] (by decide +kernel) (by decide +kernel)
set_option maxRecDepth 20000 in
theorem gX7_load_X7_remember : GoodIn wsX7_load (wsV RX7 64 RX7 yX7_remember wsX7_remember) := goodIn_app (goodIn_of _ (by decide +kernel)) ggX7_load_X7_remember
set_option maxRecDepth 20000 in
theorem ggX7_load_X6_copyFrom : GoodIn wsX7_load wsX6_copyFrom := goodIn_r _ [177, 35, 36, 38, 39, 41, 42, 178, 179, 180, 46, 181, 48, 182, 183, 184, 185, 49, 51, 52, 186, 187, 188, 148, 189, 155, 190, 156, 150, 191, 192, 193, 56, 194, 58, 195, 59, 60, 61, 196, 197, 198, 199, 200, 201, 202, 203, 204, 205, 206, 302, 303, 304, 305, 306, 307, 316, 317, 318, 319, 308, 309, 310, 320, 321, 322, 323, 311, 312, 313, 314, 315] (by decide +kernel) (by decide +kernel)
set_option maxRecDepth 20000 in
theorem gX7_load_X6_copyFrom : GoodIn wsX7_load (wsV RX7 70 RX6 yX6_copyFrom wsX6_copyFrom) := goodIn_app (goodIn_of _ (by decide +kernel)) ggX7_load_X6_copyFrom
set_option maxRecDepth 20000 in
theorem ggX7_load_X6_correctAccounts : GoodIn wsX7_load wsX6_correctAccounts := goodIn_r _ [210, 38, 100, 11, 101, 211, 212, 213, 33, 214, 36, 37, 215, 216, 217, 218, 35, 219, 220, 221, 148, 222, 155, 223, 224, 225, 226, 150, 227, 228, 229, 46, 230, 231, 232, 233, 234, 51, 136, 137, 138, 139, 52, 235, 236, 237, 238, 48, 239, 240, 241, 242, 243, 244, 245, 246, 156, 247, 248, 249, 56, 250, 58, 251, 252, 253, 254, 302, 303, 304, 305, 306, 307, 308, 309, 310, 316, 317, 318, 319, 320, 321, 322, 323] (by decide +kernel) (by decide +kernel)
set_option maxRecDepth 20000 in
theorem gX7_load_X6_correctAccounts : GoodIn wsX7_load (wsV RX7 74 RX6 yX6_correctAccounts wsX6_correctAccounts) := goodIn_app (goodIn_of _ (by decide +kernel)) ggX7_load_X6_correctAccounts
set_option maxRecDepth 20000 in
theorem ggX7_load_X6_setClocks : GoodIn wsX7_load wsX6_setClocks := goodIn_r _ [258, 38, 41, 100, 11, 101, 259, 260, 261, 33, 262, 263, 264, 265, 266, 39, 267, 268, 23, 269, 270, 271, 272, 56, 273, 60, 59, 274, 275, 276, 199, 277, 206, 203, 204, 201, 247, 248, 249, 250, 58, 278, 279, 280, 281, 61, 282, 283, 284, 285, 302, 303, 304, 305, 306, 307, 320, 321, 322, 323, 311, 312, 313, 314, 315] (by decide +kernel) (by decide +kernel)
set_option maxRecDepth 20000 in
theorem gX7_load_X6_setClocks : GoodIn wsX7_load (wsV RX7 78 RX6 yX6_setClocks wsX6_setClocks) := goodIn_app (goodIn_of _ (by decide +kernel)) ggX7_load_X6_setClocks
theorem dX7_load_0 : decode cX7_load 0 = .ok (.iload_n 1, 1) := by decide +kernel
theorem dX7_load_1 : decode cX7_load 1 = .ok (.iconst 0, 1) := by decide +kernel
theorem dX7_load_2 : decode cX7_load 2 = .ok (.aload_n 0, 1) := by decide +kernel
theorem dX7_load_3 : decode cX7_load 3 = .ok (.getfield 23, 3) := by decide +kernel
theorem dX7_load_6 : decode cX7_load 6 = .ok (.getfield 39, 3) := by decide +kernel
theorem dX7_load_9 : decode cX7_load 9 = .ok (.invokestatic 54, 3) := by decide +kernel
theorem dX7_load_12 : decode cX7_load 12 = .ok (.aload_n 0, 1) := by decide +kernel
theorem dX7_load_13 : decode cX7_load 13 = .ok (.getfield 35, 3) := by decide +kernel
theorem dX7_load_16 : decode cX7_load 16 = .ok (.iload_n 1, 1) := by decide +kernel
theorem dX7_load_17 : decode cX7_load 17 = .ok (.invokevirtual 58, 3) := by decide +kernel
theorem dX7_load_20 : decode cX7_load 20 = .ok (.aload_n 0, 1) := by decide +kernel
theorem dX7_load_21 : decode cX7_load 21 = .ok (.getfield 23, 3) := by decide +kernel
theorem dX7_load_24 : decode cX7_load 24 = .ok (.iconst 0, 1) := by decide +kernel
theorem dX7_load_25 : decode cX7_load 25 = .ok (.putfield 39, 3) := by decide +kernel
theorem dX7_load_28 : decode cX7_load 28 = .ok (.aload_n 0, 1) := by decide +kernel
theorem dX7_load_29 : decode cX7_load 29 = .ok (.getfield 35, 3) := by decide +kernel
theorem dX7_load_32 : decode cX7_load 32 = .ok (.getfield 61, 3) := by decide +kernel
theorem dX7_load_35 : decode cX7_load 35 = .ok (.ifCond .eq 11, 3) := by decide +kernel
theorem dX7_load_38 : decode cX7_load 38 = .ok (.aload_n 0, 1) := by decide +kernel
theorem dX7_load_39 : decode cX7_load 39 = .ok (.getfield 35, 3) := by decide +kernel
theorem dX7_load_42 : decode cX7_load 42 = .ok (.getfield 61, 3) := by decide +kernel
theorem dX7_load_45 : decode cX7_load 45 = .ok (.ireturn, 1) := by decide +kernel
theorem dX7_load_46 : decode cX7_load 46 = .ok (.aload_n 0, 1) := by decide +kernel
theorem dX7_load_47 : decode cX7_load 47 = .ok (.invokevirtual 64, 3) := by decide +kernel
theorem dX7_load_50 : decode cX7_load 50 = .ok (.aload_n 0, 1) := by decide +kernel
theorem dX7_load_51 : decode cX7_load 51 = .ok (.getfield 12, 3) := by decide +kernel
theorem dX7_load_54 : decode cX7_load 54 = .ok (.aload_n 0, 1) := by decide +kernel
theorem dX7_load_55 : decode cX7_load 55 = .ok (.getfield 35, 3) := by decide +kernel
theorem dX7_load_58 : decode cX7_load 58 = .ok (.getfield 67, 3) := by decide +kernel
theorem dX7_load_61 : decode cX7_load 61 = .ok (.invokevirtual 70, 3) := by decide +kernel
theorem dX7_load_64 : decode cX7_load 64 = .ok (.aload_n 0, 1) := by decide +kernel
theorem dX7_load_65 : decode cX7_load 65 = .ok (.getfield 12, 3) := by decide +kernel
theorem dX7_load_68 : decode cX7_load 68 = .ok (.invokevirtual 74, 3) := by decide +kernel
theorem dX7_load_71 : decode cX7_load 71 = .ok (.pop, 1) := by decide +kernel
theorem dX7_load_72 : decode cX7_load 72 = .ok (.aload_n 0, 1) := by decide +kernel
theorem dX7_load_73 : decode cX7_load 73 = .ok (.getfield 12, 3) := by decide +kernel
theorem dX7_load_76 : decode cX7_load 76 = .ok (.invokevirtual 78, 3) := by decide +kernel
theorem dX7_load_79 : decode cX7_load 79 = .ok (.aload_n 0, 1) := by decide +kernel
theorem dX7_load_80 : decode cX7_load 80 = .ok (.getfield 12, 3) := by decide +kernel
theorem dX7_load_83 : decode cX7_load 83 = .ok (.getfield 81, 3) := by decide +kernel
theorem dX7_load_86 : decode cX7_load 86 = .ok (.getfield 85, 3) := by decide +kernel
theorem dX7_load_89 : decode cX7_load 89 = .ok (.ireturn, 1) := by decide +kernel
set_option maxRecDepth 20000 in
theorem ggX7_share_X7_needAccount : GoodIn wsX7_share wsX7_needAccount := goodIn_ca (goodIn_r _ [8, 9, 10, 7, 11, 12, 13, 14, 15, 16] (by decide +kernel) (by decide +kernel)) (goodIn_sub (fun _ h => List.mem_cons_of_mem _ (List.mem_append_right _ h)) (by decide +kernel))
set_option maxRecDepth 20000 in
theorem gX7_share_X7_needAccount : GoodIn wsX7_share (va_wsS RX7 286 yX7_needAccount wsX7_needAccount) := goodIn_app (goodIn_of _ (by decide +kernel)) ggX7_share_X7_needAccount
set_option maxRecDepth 20000 in
theorem ggX7_share_X6_effectiveLimit : GoodIn wsX7_share wsX6_effectiveLimit := goodIn_r _ [21, 22, 23, 24, 25, 26, 27, 28, 7, 29, 30, 31, 32, 33, 34, 35, 36, 37, 38, 39, 40, 41, 42, 43, 44, 45, 59, 60, 61, 62, 63, 64, 65, 66, 67, 68, 69, 70, 71, 72, 73] (by decide +kernel) (by decide +kernel)
set_option maxRecDepth 20000 in
theorem gX7_share_X6_effectiveLimit : GoodIn wsX7_share (wsV RX7 295 RX6 yX6_effectiveLimit wsX6_effectiveLimit) := goodIn_app (goodIn_of _ (by decide +kernel)) ggX7_share_X6_effectiveLimit
set_option maxRecDepth 20000 in
theorem ggX7_share_X7_accountOf : GoodIn wsX7_share wsX7_accountOf := goodIn_r _ [29] (by decide +kernel) (by decide +kernel)
set_option maxRecDepth 20000 in
theorem gX7_share_X7_accountOf : GoodIn wsX7_share (va_wsS RX7 289 yX7_accountOf wsX7_accountOf) := goodIn_app (goodIn_of _ (by decide +kernel)) ggX7_share_X7_accountOf
set_option maxRecDepth 20000 in
theorem ggX7_share_X0_amountOf : GoodIn wsX7_share wsX0_amountOf := goodIn_r _ [50, 51, 65, 66, 67, 68] (by decide +kernel) (by decide +kernel)
set_option maxRecDepth 20000 in
theorem gX7_share_X0_amountOf : GoodIn wsX7_share (wsV RX7 292 RX0 yX0_amountOf wsX0_amountOf) := goodIn_app (goodIn_of _ (by decide +kernel)) ggX7_share_X0_amountOf
theorem dX7_share_0 : decode cX7_share 0 = .ok (.iload_n 1, 1) := by decide +kernel
theorem dX7_share_1 : decode cX7_share 1 = .ok (.iload_n 2, 1) := by decide +kernel
theorem dX7_share_2 : decode cX7_share 2 = .ok (.invokestatic 286, 3) := by decide +kernel
theorem dX7_share_5 : decode cX7_share 5 = .ok (.aload_n 0, 1) := by decide +kernel
theorem dX7_share_6 : decode cX7_share 6 = .ok (.getfield 12, 3) := by decide +kernel
theorem dX7_share_9 : decode cX7_share 9 = .ok (.iload_n 1, 1) := by decide +kernel
theorem dX7_share_10 : decode cX7_share 10 = .ok (.iload_n 2, 1) := by decide +kernel
theorem dX7_share_11 : decode cX7_share 11 = .ok (.iconst 1, 1) := by decide +kernel
theorem dX7_share_12 : decode cX7_share 12 = .ok (.invokevirtual 295, 3) := by decide +kernel
theorem dX7_share_15 : decode cX7_share 15 = .ok (.istore_n 3, 1) := by decide +kernel
theorem dX7_share_16 : decode cX7_share 16 = .ok (.iload_n 3, 1) := by decide +kernel
theorem dX7_share_17 : decode cX7_share 17 = .ok (.ifCond .gt 14, 3) := by decide +kernel
theorem dX7_share_20 : decode cX7_share 20 = .ok (.new 168, 3) := by decide +kernel
theorem dX7_share_23 : decode cX7_share 23 = .ok (.dup, 1) := by decide +kernel
theorem dX7_share_24 : decode cX7_share 24 = .ok (.ldc_w 336, 3) := by decide +kernel
theorem dX7_share_27 : decode cX7_share 27 = .ok (.invokespecial 172, 3) := by decide +kernel
theorem dX7_share_30 : decode cX7_share 30 = .ok (.athrow, 1) := by decide +kernel
theorem dX7_share_31 : decode cX7_share 31 = .ok (.aload_n 0, 1) := by decide +kernel
theorem dX7_share_32 : decode cX7_share 32 = .ok (.getfield 12, 3) := by decide +kernel
theorem dX7_share_35 : decode cX7_share 35 = .ok (.getfield 255, 3) := by decide +kernel
theorem dX7_share_38 : decode cX7_share 38 = .ok (.iload_n 1, 1) := by decide +kernel
theorem dX7_share_39 : decode cX7_share 39 = .ok (.iload_n 2, 1) := by decide +kernel
theorem dX7_share_40 : decode cX7_share 40 = .ok (.invokestatic 289, 3) := by decide +kernel
theorem dX7_share_43 : decode cX7_share 43 = .ok (.invokevirtual 292, 3) := by decide +kernel
theorem dX7_share_46 : decode cX7_share 46 = .ok (.i2f, 1) := by decide +kernel
theorem dX7_share_47 : decode cX7_share 47 = .ok (.iload_n 3, 1) := by decide +kernel
theorem dX7_share_48 : decode cX7_share 48 = .ok (.i2f, 1) := by decide +kernel
theorem dX7_share_49 : decode cX7_share 49 = .ok (.fdiv, 1) := by decide +kernel
theorem dX7_share_50 : decode cX7_share 50 = .ok (.freturn, 1) := by decide +kernel
set_option maxRecDepth 20000 in
theorem ggX7_writePath_X7_needFolder : GoodIn wsX7_writePath wsX7_needFolder := goodIn_ca (goodIn_r _ [9, 10, 11, 3, 4, 12, 13, 14, 15, 16, 17, 50, 51, 52, 53, 54, 55, 56, 59, 60, 61, 62, 63, 64, 65, 66, 67, 68] (by decide +kernel) (by decide +kernel)) (goodIn_sub (fun _ h => List.mem_cons_of_mem _ (List.mem_append_right _ h)) (by decide +kernel))
set_option maxRecDepth 20000 in
theorem gX7_writePath_X7_needFolder : GoodIn wsX7_writePath (wsV RX7 132 RX7 yX7_needFolder wsX7_needFolder) := goodIn_app (goodIn_of _ (by decide +kernel)) ggX7_writePath_X7_needFolder
set_option maxRecDepth 20000 in
theorem ggX7_writePath_X3_depthOf : GoodIn wsX7_writePath wsX3_depthOf := goodIn_r _ [21, 22, 23, 24, 15, 25, 26, 27, 13, 14, 16, 17, 65, 66, 67, 68] (by decide +kernel) (by decide +kernel)
set_option maxRecDepth 20000 in
theorem gX7_writePath_X3_depthOf : GoodIn wsX7_writePath (wsV RX7 151 RX3 yX3_depthOf wsX3_depthOf) := goodIn_app (goodIn_of _ (by decide +kernel)) ggX7_writePath_X3_depthOf
set_option maxRecDepth 20000 in
theorem ggX7_writePath_X3_ancestorOf : GoodIn wsX7_writePath wsX3_ancestorOf := goodIn_r _ [31, 22, 23, 24, 15, 25, 26, 27, 13, 14, 16, 17, 65, 66, 67, 68] (by decide +kernel) (by decide +kernel)
set_option maxRecDepth 20000 in
theorem gX7_writePath_X3_ancestorOf : GoodIn wsX7_writePath (wsV RX7 373 RX3 yX3_ancestorOf wsX3_ancestorOf) := goodIn_app (goodIn_of _ (by decide +kernel)) ggX7_writePath_X3_ancestorOf
set_option maxRecDepth 20000 in
theorem ggX7_writePath_X3_nameOf : GoodIn wsX7_writePath wsX3_nameOf := goodIn_r _ [35, 36, 27, 13, 14, 15, 16, 17, 65, 66, 67, 68] (by decide +kernel) (by decide +kernel)
set_option maxRecDepth 20000 in
theorem gX7_writePath_X3_nameOf : GoodIn wsX7_writePath (wsV RX7 376 RX3 yX3_nameOf wsX3_nameOf) := goodIn_app (goodIn_of _ (by decide +kernel)) ggX7_writePath_X3_nameOf
set_option maxRecDepth 20000 in
theorem ggX7_writePath_X1_putName : GoodIn wsX7_writePath wsX1_putName := goodIn_r _ [41, 42, 43, 44, 45, 40, 46, 47, 48, 57, 58] (by decide +kernel) (by decide +kernel)
set_option maxRecDepth 20000 in
theorem gX7_writePath_X1_putName : GoodIn wsX7_writePath (wsV RX7 380 RX1 yX1_putName wsX1_putName) := goodIn_app (goodIn_of _ (by decide +kernel)) ggX7_writePath_X1_putName
set_option maxRecDepth 20000 in
theorem ggX7_writePath_X1_put : GoodIn wsX7_writePath wsX1_put := goodIn_r _ [46, 47, 48, 57, 58] (by decide +kernel) (by decide +kernel)
set_option maxRecDepth 20000 in
theorem gX7_writePath_X1_put : GoodIn wsX7_writePath (wsV RX7 384 RX1 yX1_put wsX1_put) := goodIn_app (goodIn_of _ (by decide +kernel)) ggX7_writePath_X1_put
theorem dX7_writePath_0 : decode cX7_writePath 0 = .ok (.aload_n 0, 1) := by decide +kernel
theorem dX7_writePath_1 : decode cX7_writePath 1 = .ok (.iload_n 1, 1) := by decide +kernel
theorem dX7_writePath_2 : decode cX7_writePath 2 = .ok (.invokevirtual 132, 3) := by decide +kernel
theorem dX7_writePath_5 : decode cX7_writePath 5 = .ok (.aload_n 0, 1) := by decide +kernel
theorem dX7_writePath_6 : decode cX7_writePath 6 = .ok (.getfield 27, 3) := by decide +kernel
theorem dX7_writePath_9 : decode cX7_writePath 9 = .ok (.iconst 0, 1) := by decide +kernel
theorem dX7_writePath_10 : decode cX7_writePath 10 = .ok (.putfield 39, 3) := by decide +kernel
theorem dX7_writePath_13 : decode cX7_writePath 13 = .ok (.aload_n 0, 1) := by decide +kernel
theorem dX7_writePath_14 : decode cX7_writePath 14 = .ok (.getfield 12, 3) := by decide +kernel
theorem dX7_writePath_17 : decode cX7_writePath 17 = .ok (.getfield 93, 3) := by decide +kernel
theorem dX7_writePath_20 : decode cX7_writePath 20 = .ok (.iload_n 1, 1) := by decide +kernel
theorem dX7_writePath_21 : decode cX7_writePath 21 = .ok (.invokevirtual 151, 3) := by decide +kernel
theorem dX7_writePath_24 : decode cX7_writePath 24 = .ok (.istore_n 2, 1) := by decide +kernel
theorem dX7_writePath_25 : decode cX7_writePath 25 = .ok (.iload_n 2, 1) := by decide +kernel
theorem dX7_writePath_26 : decode cX7_writePath 26 = .ok (.ifCond .lt 51, 3) := by decide +kernel
theorem dX7_writePath_29 : decode cX7_writePath 29 = .ok (.aload_n 0, 1) := by decide +kernel
theorem dX7_writePath_30 : decode cX7_writePath 30 = .ok (.getfield 27, 3) := by decide +kernel
theorem dX7_writePath_33 : decode cX7_writePath 33 = .ok (.aload_n 0, 1) := by decide +kernel
theorem dX7_writePath_34 : decode cX7_writePath 34 = .ok (.getfield 12, 3) := by decide +kernel
theorem dX7_writePath_37 : decode cX7_writePath 37 = .ok (.getfield 93, 3) := by decide +kernel
theorem dX7_writePath_40 : decode cX7_writePath 40 = .ok (.aload_n 0, 1) := by decide +kernel
theorem dX7_writePath_41 : decode cX7_writePath 41 = .ok (.getfield 12, 3) := by decide +kernel
theorem dX7_writePath_44 : decode cX7_writePath 44 = .ok (.getfield 93, 3) := by decide +kernel
theorem dX7_writePath_47 : decode cX7_writePath 47 = .ok (.iload_n 1, 1) := by decide +kernel
theorem dX7_writePath_48 : decode cX7_writePath 48 = .ok (.iload_n 2, 1) := by decide +kernel
theorem dX7_writePath_49 : decode cX7_writePath 49 = .ok (.invokevirtual 373, 3) := by decide +kernel
theorem dX7_writePath_52 : decode cX7_writePath 52 = .ok (.invokevirtual 376, 3) := by decide +kernel
theorem dX7_writePath_55 : decode cX7_writePath 55 = .ok (.invokevirtual 380, 3) := by decide +kernel
theorem dX7_writePath_58 : decode cX7_writePath 58 = .ok (.iload_n 2, 1) := by decide +kernel
theorem dX7_writePath_59 : decode cX7_writePath 59 = .ok (.ifCond .le 12, 3) := by decide +kernel
theorem dX7_writePath_62 : decode cX7_writePath 62 = .ok (.aload_n 0, 1) := by decide +kernel
theorem dX7_writePath_63 : decode cX7_writePath 63 = .ok (.getfield 27, 3) := by decide +kernel
theorem dX7_writePath_66 : decode cX7_writePath 66 = .ok (.bipush 47, 2) := by decide +kernel
theorem dX7_writePath_68 : decode cX7_writePath 68 = .ok (.invokevirtual 384, 3) := by decide +kernel
theorem dX7_writePath_71 : decode cX7_writePath 71 = .ok (.iinc 2 (-1), 3) := by decide +kernel
theorem dX7_writePath_74 : decode cX7_writePath 74 = .ok (.goto (-49), 3) := by decide +kernel
theorem dX7_writePath_77 : decode cX7_writePath 77 = .ok (.aload_n 0, 1) := by decide +kernel
theorem dX7_writePath_78 : decode cX7_writePath 78 = .ok (.getfield 27, 3) := by decide +kernel
theorem dX7_writePath_81 : decode cX7_writePath 81 = .ok (.getfield 39, 3) := by decide +kernel
theorem dX7_writePath_84 : decode cX7_writePath 84 = .ok (.ireturn, 1) := by decide +kernel
set_option maxRecDepth 20000 in
theorem ggX7_writeAccounts_X7_needProject : GoodIn wsX7_writeAccounts wsX7_needProject := goodIn_ca (goodIn_r _ [6, 7, 8, 5, 9, 10, 11] (by decide +kernel) (by decide +kernel)) (goodIn_sub (fun _ h => List.mem_cons_of_mem _ (List.mem_append_right _ h)) (by decide +kernel))
set_option maxRecDepth 20000 in
theorem gX7_writeAccounts_X7_needProject : GoodIn wsX7_writeAccounts (va_wsS RX7 278 yX7_needProject wsX7_needProject) := goodIn_app (goodIn_of _ (by decide +kernel)) ggX7_writeAccounts_X7_needProject
set_option maxRecDepth 20000 in
theorem ggX7_writeAccounts_X1_putNumber : GoodIn wsX7_writeAccounts wsX1_putNumber := goodIn_r _ [16, 17, 18, 19, 20, 15, 21, 22, 23, 103, 104] (by decide +kernel) (by decide +kernel)
set_option maxRecDepth 20000 in
theorem gX7_writeAccounts_X1_putNumber : GoodIn wsX7_writeAccounts (wsV RX7 387 RX1 yX1_putNumber wsX1_putNumber) := goodIn_app (goodIn_of _ (by decide +kernel)) ggX7_writeAccounts_X1_putNumber
set_option maxRecDepth 20000 in
theorem ggX7_writeAccounts_X1_put : GoodIn wsX7_writeAccounts wsX1_put := goodIn_r _ [21, 22, 23, 103, 104] (by decide +kernel) (by decide +kernel)
set_option maxRecDepth 20000 in
theorem gX7_writeAccounts_X1_put : GoodIn wsX7_writeAccounts (wsV RX7 384 RX1 yX1_put wsX1_put) := goodIn_app (goodIn_of _ (by decide +kernel)) ggX7_writeAccounts_X1_put
set_option maxRecDepth 20000 in
theorem ggX7_writeAccounts_X7_putAccount : GoodIn wsX7_writeAccounts wsX7_putAccount := goodIn_r _ [28, 1, 29, 30, 24, 19, 20, 15, 21, 22, 23, 31, 32, 5, 33, 34, 35, 36, 37, 38, 39, 12, 13, 14, 16, 17, 18, 40, 41, 42, 43, 44, 45, 46, 47, 48, 49, 50, 51, 52, 53, 54, 55, 56, 57, 58, 59, 60, 61, 62, 63, 64, 65, 66, 67, 68, 69, 70, 71, 72, 73, 74, 75, 76, 77, 78, 79, 80, 81, 82, 83, 84, 85, 86, 87, 88, 89, 90, 91, 92, 93, 94, 95, 96, 97, 98, 99, 100, 101, 102, 105, 106, 107, 108, 109, 110, 103, 104, 111, 112, 113, 114, 115, 116, 117, 118, 119] (by decide +kernel) (by decide +kernel)
set_option maxRecDepth 20000 in
theorem gX7_writeAccounts_X7_putAccount : GoodIn wsX7_writeAccounts (wsV RX7 390 RX7 yX7_putAccount wsX7_putAccount) := goodIn_app (goodIn_of _ (by decide +kernel)) ggX7_writeAccounts_X7_putAccount
theorem dX7_writeAccounts_0 : decode cX7_writeAccounts 0 = .ok (.iload_n 1, 1) := by decide +kernel
theorem dX7_writeAccounts_1 : decode cX7_writeAccounts 1 = .ok (.invokestatic 278, 3) := by decide +kernel
theorem dX7_writeAccounts_4 : decode cX7_writeAccounts 4 = .ok (.aload_n 0, 1) := by decide +kernel
theorem dX7_writeAccounts_5 : decode cX7_writeAccounts 5 = .ok (.getfield 27, 3) := by decide +kernel
theorem dX7_writeAccounts_8 : decode cX7_writeAccounts 8 = .ok (.iconst 0, 1) := by decide +kernel
theorem dX7_writeAccounts_9 : decode cX7_writeAccounts 9 = .ok (.putfield 39, 3) := by decide +kernel
theorem dX7_writeAccounts_12 : decode cX7_writeAccounts 12 = .ok (.aload_n 0, 1) := by decide +kernel
theorem dX7_writeAccounts_13 : decode cX7_writeAccounts 13 = .ok (.getfield 27, 3) := by decide +kernel
theorem dX7_writeAccounts_16 : decode cX7_writeAccounts 16 = .ok (.iload_n 1, 1) := by decide +kernel
theorem dX7_writeAccounts_17 : decode cX7_writeAccounts 17 = .ok (.invokevirtual 387, 3) := by decide +kernel
theorem dX7_writeAccounts_20 : decode cX7_writeAccounts 20 = .ok (.aload_n 0, 1) := by decide +kernel
theorem dX7_writeAccounts_21 : decode cX7_writeAccounts 21 = .ok (.getfield 27, 3) := by decide +kernel
theorem dX7_writeAccounts_24 : decode cX7_writeAccounts 24 = .ok (.bipush 58, 2) := by decide +kernel
theorem dX7_writeAccounts_26 : decode cX7_writeAccounts 26 = .ok (.invokevirtual 384, 3) := by decide +kernel
theorem dX7_writeAccounts_29 : decode cX7_writeAccounts 29 = .ok (.iconst 0, 1) := by decide +kernel
theorem dX7_writeAccounts_30 : decode cX7_writeAccounts 30 = .ok (.istore_n 2, 1) := by decide +kernel
theorem dX7_writeAccounts_31 : decode cX7_writeAccounts 31 = .ok (.iload_n 2, 1) := by decide +kernel
theorem dX7_writeAccounts_32 : decode cX7_writeAccounts 32 = .ok (.iconst 2, 1) := by decide +kernel
theorem dX7_writeAccounts_33 : decode cX7_writeAccounts 33 = .ok (.if_icmp .ge 15, 3) := by decide +kernel
theorem dX7_writeAccounts_36 : decode cX7_writeAccounts 36 = .ok (.aload_n 0, 1) := by decide +kernel
theorem dX7_writeAccounts_37 : decode cX7_writeAccounts 37 = .ok (.iload_n 1, 1) := by decide +kernel
theorem dX7_writeAccounts_38 : decode cX7_writeAccounts 38 = .ok (.iload_n 2, 1) := by decide +kernel
theorem dX7_writeAccounts_39 : decode cX7_writeAccounts 39 = .ok (.invokevirtual 390, 3) := by decide +kernel
theorem dX7_writeAccounts_42 : decode cX7_writeAccounts 42 = .ok (.iinc 2 1, 3) := by decide +kernel
theorem dX7_writeAccounts_45 : decode cX7_writeAccounts 45 = .ok (.goto (-14), 3) := by decide +kernel
theorem dX7_writeAccounts_48 : decode cX7_writeAccounts 48 = .ok (.aload_n 0, 1) := by decide +kernel
theorem dX7_writeAccounts_49 : decode cX7_writeAccounts 49 = .ok (.getfield 27, 3) := by decide +kernel
theorem dX7_writeAccounts_52 : decode cX7_writeAccounts 52 = .ok (.getfield 39, 3) := by decide +kernel
theorem dX7_writeAccounts_55 : decode cX7_writeAccounts 55 = .ok (.ireturn, 1) := by decide +kernel
set_option maxRecDepth 20000 in
theorem ggX7_writtenByte_X1_byteAt : GoodIn wsX7_writtenByte wsX1_byteAt := goodIn_r _ [9, 10, 11, 19, 20] (by decide +kernel) (by decide +kernel)
set_option maxRecDepth 20000 in
theorem gX7_writtenByte_X1_byteAt : GoodIn wsX7_writtenByte (wsV RX7 398 RX1 yX1_byteAt wsX1_byteAt) := goodIn_app (goodIn_of _ (by decide +kernel)) ggX7_writtenByte_X1_byteAt
theorem dX7_writtenByte_0 : decode cX7_writtenByte 0 = .ok (.iload_n 1, 1) := by decide +kernel
theorem dX7_writtenByte_1 : decode cX7_writtenByte 1 = .ok (.ifCond .lt 14, 3) := by decide +kernel
theorem dX7_writtenByte_4 : decode cX7_writtenByte 4 = .ok (.iload_n 1, 1) := by decide +kernel
theorem dX7_writtenByte_5 : decode cX7_writtenByte 5 = .ok (.aload_n 0, 1) := by decide +kernel
theorem dX7_writtenByte_6 : decode cX7_writtenByte 6 = .ok (.getfield 27, 3) := by decide +kernel
theorem dX7_writtenByte_9 : decode cX7_writtenByte 9 = .ok (.getfield 39, 3) := by decide +kernel
theorem dX7_writtenByte_12 : decode cX7_writtenByte 12 = .ok (.if_icmp .lt 14, 3) := by decide +kernel
theorem dX7_writtenByte_15 : decode cX7_writtenByte 15 = .ok (.new 393, 3) := by decide +kernel
theorem dX7_writtenByte_18 : decode cX7_writtenByte 18 = .ok (.dup, 1) := by decide +kernel
theorem dX7_writtenByte_19 : decode cX7_writtenByte 19 = .ok (.ldc_w 395, 3) := by decide +kernel
theorem dX7_writtenByte_22 : decode cX7_writtenByte 22 = .ok (.invokespecial 397, 3) := by decide +kernel
theorem dX7_writtenByte_25 : decode cX7_writtenByte 25 = .ok (.athrow, 1) := by decide +kernel
theorem dX7_writtenByte_26 : decode cX7_writtenByte 26 = .ok (.aload_n 0, 1) := by decide +kernel
theorem dX7_writtenByte_27 : decode cX7_writtenByte 27 = .ok (.getfield 27, 3) := by decide +kernel
theorem dX7_writtenByte_30 : decode cX7_writtenByte 30 = .ok (.iload_n 1, 1) := by decide +kernel
theorem dX7_writtenByte_31 : decode cX7_writtenByte 31 = .ok (.invokevirtual 398, 3) := by decide +kernel
theorem dX7_writtenByte_34 : decode cX7_writtenByte 34 = .ok (.ireturn, 1) := by decide +kernel
set_option maxRecDepth 20000 in
theorem ggX7_putAccount_X1_put : GoodIn wsX7_putAccount wsX1_put := goodIn_r _ [8, 9, 10, 96, 97] (by decide +kernel) (by decide +kernel)
set_option maxRecDepth 20000 in
theorem gX7_putAccount_X1_put : GoodIn wsX7_putAccount (wsV RX7 384 RX1 yX1_put wsX1_put) := goodIn_app (goodIn_of _ (by decide +kernel)) ggX7_putAccount_X1_put
set_option maxRecDepth 20000 in
theorem ggX7_putAccount_X7_accountOf : GoodIn wsX7_putAccount wsX7_accountOf := goodIn_r _ [14] (by decide +kernel) (by decide +kernel)
set_option maxRecDepth 20000 in
theorem gX7_putAccount_X7_accountOf : GoodIn wsX7_putAccount (va_wsS RX7 289 yX7_accountOf wsX7_accountOf) := goodIn_app (goodIn_of _ (by decide +kernel)) ggX7_putAccount_X7_accountOf
set_option maxRecDepth 20000 in
theorem ggX7_putAccount_X0_amountOf : GoodIn wsX7_putAccount wsX0_amountOf := goodIn_r _ [19, 20, 98, 99, 100, 101] (by decide +kernel) (by decide +kernel)
set_option maxRecDepth 20000 in
theorem gX7_putAccount_X0_amountOf : GoodIn wsX7_putAccount (wsV RX7 292 RX0 yX0_amountOf wsX0_amountOf) := goodIn_app (goodIn_of _ (by decide +kernel)) ggX7_putAccount_X0_amountOf
set_option maxRecDepth 20000 in
theorem ggX7_putAccount_X1_putNumber : GoodIn wsX7_putAccount wsX1_putNumber := goodIn_r _ [24, 25, 26, 5, 6, 7, 8, 9, 10, 96, 97] (by decide +kernel) (by decide +kernel)
set_option maxRecDepth 20000 in
theorem gX7_putAccount_X1_putNumber : GoodIn wsX7_putAccount (wsV RX7 387 RX1 yX1_putNumber wsX1_putNumber) := goodIn_app (goodIn_of _ (by decide +kernel)) ggX7_putAccount_X1_putNumber
set_option maxRecDepth 20000 in
theorem ggX7_putAccount_X6_effectiveLimit : GoodIn wsX7_putAccount wsX6_effectiveLimit := goodIn_r _ [31, 32, 33, 34, 35, 36, 37, 12, 13, 14, 38, 39, 40, 18, 41, 42, 43, 44, 45, 46, 47, 48, 49, 50, 51, 52, 90, 91, 92, 93, 94, 95, 98, 99, 100, 101, 102, 103, 104, 105, 106] (by decide +kernel) (by decide +kernel)
set_option maxRecDepth 20000 in
theorem gX7_putAccount_X6_effectiveLimit : GoodIn wsX7_putAccount (wsV RX7 295 RX6 yX6_effectiveLimit wsX6_effectiveLimit) := goodIn_app (goodIn_of _ (by decide +kernel)) ggX7_putAccount_X6_effectiveLimit
set_option maxRecDepth 20000 in
theorem ggX7_putAccount_X6_stateOf : GoodIn wsX7_putAccount wsX6_stateOf := goodIn_r _ [56, 32, 57, 58, 59, 30, 60, 61, 28, 29, 31, 33, 34, 35, 36, 37, 12, 13, 14, 38, 39, 40, 18, 41, 42, 43, 44, 45, 46, 47, 48, 49, 50, 51, 52, 62, 16, 17, 19, 20, 63, 64, 65, 66, 67, 68, 69, 70, 71, 72, 73, 74, 75, 76, 77, 78, 79, 80, 81, 82, 90, 91, 92, 93, 94, 95, 98, 99, 100, 101, 102, 103, 104, 105, 106] (by decide +kernel) (by decide +kernel)
set_option maxRecDepth 20000 in
theorem gX7_putAccount_X6_stateOf : GoodIn wsX7_putAccount (wsV RX7 311 RX6 yX6_stateOf wsX6_stateOf) := goodIn_app (goodIn_of _ (by decide +kernel)) ggX7_putAccount_X6_stateOf
theorem dX7_putAccount_0 : decode cX7_putAccount 0 = .ok (.aload_n 0, 1) := by decide +kernel
theorem dX7_putAccount_1 : decode cX7_putAccount 1 = .ok (.getfield 27, 3) := by decide +kernel
theorem dX7_putAccount_4 : decode cX7_putAccount 4 = .ok (.bipush 32, 2) := by decide +kernel
theorem dX7_putAccount_6 : decode cX7_putAccount 6 = .ok (.invokevirtual 384, 3) := by decide +kernel
theorem dX7_putAccount_9 : decode cX7_putAccount 9 = .ok (.aload_n 0, 1) := by decide +kernel
theorem dX7_putAccount_10 : decode cX7_putAccount 10 = .ok (.getfield 27, 3) := by decide +kernel
theorem dX7_putAccount_13 : decode cX7_putAccount 13 = .ok (.aload_n 0, 1) := by decide +kernel
theorem dX7_putAccount_14 : decode cX7_putAccount 14 = .ok (.getfield 12, 3) := by decide +kernel
theorem dX7_putAccount_17 : decode cX7_putAccount 17 = .ok (.getfield 255, 3) := by decide +kernel
theorem dX7_putAccount_20 : decode cX7_putAccount 20 = .ok (.iload_n 1, 1) := by decide +kernel
theorem dX7_putAccount_21 : decode cX7_putAccount 21 = .ok (.iload_n 2, 1) := by decide +kernel
theorem dX7_putAccount_22 : decode cX7_putAccount 22 = .ok (.invokestatic 289, 3) := by decide +kernel
theorem dX7_putAccount_25 : decode cX7_putAccount 25 = .ok (.invokevirtual 292, 3) := by decide +kernel
theorem dX7_putAccount_28 : decode cX7_putAccount 28 = .ok (.invokevirtual 387, 3) := by decide +kernel
theorem dX7_putAccount_31 : decode cX7_putAccount 31 = .ok (.aload_n 0, 1) := by decide +kernel
theorem dX7_putAccount_32 : decode cX7_putAccount 32 = .ok (.getfield 27, 3) := by decide +kernel
theorem dX7_putAccount_35 : decode cX7_putAccount 35 = .ok (.bipush 47, 2) := by decide +kernel
theorem dX7_putAccount_37 : decode cX7_putAccount 37 = .ok (.invokevirtual 384, 3) := by decide +kernel
theorem dX7_putAccount_40 : decode cX7_putAccount 40 = .ok (.aload_n 0, 1) := by decide +kernel
theorem dX7_putAccount_41 : decode cX7_putAccount 41 = .ok (.getfield 12, 3) := by decide +kernel
theorem dX7_putAccount_44 : decode cX7_putAccount 44 = .ok (.iload_n 1, 1) := by decide +kernel
theorem dX7_putAccount_45 : decode cX7_putAccount 45 = .ok (.iload_n 2, 1) := by decide +kernel
theorem dX7_putAccount_46 : decode cX7_putAccount 46 = .ok (.iconst 1, 1) := by decide +kernel
theorem dX7_putAccount_47 : decode cX7_putAccount 47 = .ok (.invokevirtual 295, 3) := by decide +kernel
theorem dX7_putAccount_50 : decode cX7_putAccount 50 = .ok (.istore_n 3, 1) := by decide +kernel
theorem dX7_putAccount_51 : decode cX7_putAccount 51 = .ok (.iload_n 3, 1) := by decide +kernel
theorem dX7_putAccount_52 : decode cX7_putAccount 52 = .ok (.iconst (-1), 1) := by decide +kernel
theorem dX7_putAccount_53 : decode cX7_putAccount 53 = .ok (.if_icmp .ne 15, 3) := by decide +kernel
theorem dX7_putAccount_56 : decode cX7_putAccount 56 = .ok (.aload_n 0, 1) := by decide +kernel
theorem dX7_putAccount_57 : decode cX7_putAccount 57 = .ok (.getfield 27, 3) := by decide +kernel
theorem dX7_putAccount_60 : decode cX7_putAccount 60 = .ok (.bipush 45, 2) := by decide +kernel
theorem dX7_putAccount_62 : decode cX7_putAccount 62 = .ok (.invokevirtual 384, 3) := by decide +kernel
theorem dX7_putAccount_65 : decode cX7_putAccount 65 = .ok (.goto 11, 3) := by decide +kernel
theorem dX7_putAccount_68 : decode cX7_putAccount 68 = .ok (.aload_n 0, 1) := by decide +kernel
theorem dX7_putAccount_69 : decode cX7_putAccount 69 = .ok (.getfield 27, 3) := by decide +kernel
theorem dX7_putAccount_72 : decode cX7_putAccount 72 = .ok (.iload_n 3, 1) := by decide +kernel
theorem dX7_putAccount_73 : decode cX7_putAccount 73 = .ok (.invokevirtual 387, 3) := by decide +kernel
theorem dX7_putAccount_76 : decode cX7_putAccount 76 = .ok (.aload_n 0, 1) := by decide +kernel
theorem dX7_putAccount_77 : decode cX7_putAccount 77 = .ok (.getfield 12, 3) := by decide +kernel
theorem dX7_putAccount_80 : decode cX7_putAccount 80 = .ok (.iload_n 1, 1) := by decide +kernel
theorem dX7_putAccount_81 : decode cX7_putAccount 81 = .ok (.iload_n 2, 1) := by decide +kernel
theorem dX7_putAccount_82 : decode cX7_putAccount 82 = .ok (.invokevirtual 311, 3) := by decide +kernel
theorem dX7_putAccount_85 : decode cX7_putAccount 85 = .ok (.istore 4, 2) := by decide +kernel
theorem dX7_putAccount_87 : decode cX7_putAccount 87 = .ok (.iload 4, 2) := by decide +kernel
theorem dX7_putAccount_89 : decode cX7_putAccount 89 = .ok (.iconst 2, 1) := by decide +kernel
theorem dX7_putAccount_90 : decode cX7_putAccount 90 = .ok (.if_icmp .ne 15, 3) := by decide +kernel
theorem dX7_putAccount_93 : decode cX7_putAccount 93 = .ok (.aload_n 0, 1) := by decide +kernel
theorem dX7_putAccount_94 : decode cX7_putAccount 94 = .ok (.getfield 27, 3) := by decide +kernel
theorem dX7_putAccount_97 : decode cX7_putAccount 97 = .ok (.bipush 43, 2) := by decide +kernel
theorem dX7_putAccount_99 : decode cX7_putAccount 99 = .ok (.invokevirtual 384, 3) := by decide +kernel
theorem dX7_putAccount_102 : decode cX7_putAccount 102 = .ok (.goto 18, 3) := by decide +kernel
theorem dX7_putAccount_105 : decode cX7_putAccount 105 = .ok (.iload 4, 2) := by decide +kernel
theorem dX7_putAccount_107 : decode cX7_putAccount 107 = .ok (.iconst 2, 1) := by decide +kernel
theorem dX7_putAccount_108 : decode cX7_putAccount 108 = .ok (.if_icmp .le 12, 3) := by decide +kernel
theorem dX7_putAccount_111 : decode cX7_putAccount 111 = .ok (.aload_n 0, 1) := by decide +kernel
theorem dX7_putAccount_112 : decode cX7_putAccount 112 = .ok (.getfield 27, 3) := by decide +kernel
theorem dX7_putAccount_115 : decode cX7_putAccount 115 = .ok (.bipush 33, 2) := by decide +kernel
theorem dX7_putAccount_117 : decode cX7_putAccount 117 = .ok (.invokevirtual 384, 3) := by decide +kernel
theorem dX7_putAccount_120 : decode cX7_putAccount 120 = .ok (.return_, 1) := by decide +kernel
