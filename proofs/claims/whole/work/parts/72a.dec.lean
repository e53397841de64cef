set_option maxRecDepth 20000 in
theorem ggX5_readTree_X6_clear : GoodIn wsX5_readTree wsX6_clear := goodIn_r _ [15, 16, 17, 18, 19, 20, 21, 22, 23, 24, 25, 26, 27, 28, 29, 30, 31, 32, 33, 34, 35, 36, 37, 38, 39, 40, 41, 42, 152, 153, 154, 155, 156, 157, 158, 159, 160, 161, 162, 163, 164, 165, 166, 167, 168, 169, 170, 171, 172, 173] (by decide +kernel) (by decide +kernel)
set_option maxRecDepth 20000 in
theorem gX5_readTree_X6_clear : GoodIn wsX5_readTree (wsV RX5 44 RX6 yX6_clear wsX6_clear) := goodIn_app (goodIn_of _ (by decide +kernel)) ggX5_readTree_X6_clear
set_option maxRecDepth 20000 in
theorem ggX5_readTree_X5_beginToken : GoodIn wsX5_readTree wsX5_beginToken := goodIn_r _ [47, 7, 6, 1, 48, 145, 146, 147, 148, 149, 150, 151] (by decide +kernel) (by decide +kernel)
set_option maxRecDepth 20000 in
theorem gX5_readTree_X5_beginToken : GoodIn wsX5_readTree (wsV RX5 47 RX5 yX5_beginToken wsX5_beginToken) := goodIn_app (goodIn_of _ (by decide +kernel)) ggX5_readTree_X5_beginToken
set_option maxRecDepth 20000 in
theorem ggX5_readTree_X5_readStatement : GoodIn wsX5_readTree wsX5_readStatement := goodIn_r _ [52, 53, 54, 55, 56, 57, 58, 59, 60, 46, 61, 7, 6, 1, 48, 43, 44, 45, 47, 62, 63, 64, 65, 8, 9, 66, 67, 68, 69, 10, 70, 71, 72, 73, 74, 75, 2, 3, 4, 5, 76, 77, 78, 79, 80, 81, 82, 83, 84, 85, 86, 87, 37, 88, 40, 41, 89, 90, 91, 92, 93, 94, 95, 96, 27, 97, 33, 98, 99, 100, 101, 30, 102, 103, 104, 105, 106, 107, 108, 109, 29, 32, 110, 111, 112, 113, 114, 115, 116, 117, 118, 119, 120, 121, 122, 123, 124, 125, 126, 127, 128, 129, 130, 131, 132, 133, 134, 135, 136, 137, 138, 139, 140, 141, 142, 143, 144, 145, 146, 147, 148, 149, 150, 151, 152, 153, 154, 155, 156, 157, 170, 171, 172, 173, 166, 167, 168, 169, 158, 159, 160] (by decide +kernel) (by decide +kernel)
set_option maxRecDepth 20000 in
theorem gX5_readTree_X5_readStatement : GoodIn wsX5_readTree (wsV RX5 50 RX5 yX5_readStatement wsX5_readStatement) := goodIn_app (goodIn_of _ (by decide +kernel)) ggX5_readTree_X5_readStatement
theorem dX5_readTree_0 : decode cX5_readTree 0 = .ok (.aload_n 0, 1) := by decide +kernel
theorem dX5_readTree_1 : decode cX5_readTree 1 = .ok (.iload_n 1, 1) := by decide +kernel
theorem dX5_readTree_2 : decode cX5_readTree 2 = .ok (.aload_n 0, 1) := by decide +kernel
theorem dX5_readTree_3 : decode cX5_readTree 3 = .ok (.getfield 28, 3) := by decide +kernel
theorem dX5_readTree_6 : decode cX5_readTree 6 = .ok (.arraylength, 1) := by decide +kernel
theorem dX5_readTree_7 : decode cX5_readTree 7 = .ok (.invokestatic 29, 3) := by decide +kernel
theorem dX5_readTree_10 : decode cX5_readTree 10 = .ok (.putfield 35, 3) := by decide +kernel
theorem dX5_readTree_13 : decode cX5_readTree 13 = .ok (.aload_n 0, 1) := by decide +kernel
theorem dX5_readTree_14 : decode cX5_readTree 14 = .ok (.iconst 0, 1) := by decide +kernel
theorem dX5_readTree_15 : decode cX5_readTree 15 = .ok (.putfield 38, 3) := by decide +kernel
theorem dX5_readTree_18 : decode cX5_readTree 18 = .ok (.aload_n 0, 1) := by decide +kernel
theorem dX5_readTree_19 : decode cX5_readTree 19 = .ok (.iconst 0, 1) := by decide +kernel
theorem dX5_readTree_20 : decode cX5_readTree 20 = .ok (.putfield 41, 3) := by decide +kernel
theorem dX5_readTree_23 : decode cX5_readTree 23 = .ok (.aload_n 0, 1) := by decide +kernel
theorem dX5_readTree_24 : decode cX5_readTree 24 = .ok (.iconst (-1), 1) := by decide +kernel
theorem dX5_readTree_25 : decode cX5_readTree 25 = .ok (.putfield 18, 3) := by decide +kernel
theorem dX5_readTree_28 : decode cX5_readTree 28 = .ok (.aload_n 0, 1) := by decide +kernel
theorem dX5_readTree_29 : decode cX5_readTree 29 = .ok (.getfield 12, 3) := by decide +kernel
theorem dX5_readTree_32 : decode cX5_readTree 32 = .ok (.invokevirtual 44, 3) := by decide +kernel
theorem dX5_readTree_35 : decode cX5_readTree 35 = .ok (.aload_n 0, 1) := by decide +kernel
theorem dX5_readTree_36 : decode cX5_readTree 36 = .ok (.invokevirtual 47, 3) := by decide +kernel
theorem dX5_readTree_39 : decode cX5_readTree 39 = .ok (.iconst 0, 1) := by decide +kernel
theorem dX5_readTree_40 : decode cX5_readTree 40 = .ok (.istore_n 2, 1) := by decide +kernel
theorem dX5_readTree_41 : decode cX5_readTree 41 = .ok (.iload_n 2, 1) := by decide +kernel
theorem dX5_readTree_42 : decode cX5_readTree 42 = .ok (.sipush 900, 3) := by decide +kernel
theorem dX5_readTree_45 : decode cX5_readTree 45 = .ok (.if_icmp .ge 35, 3) := by decide +kernel
theorem dX5_readTree_48 : decode cX5_readTree 48 = .ok (.aload_n 0, 1) := by decide +kernel
theorem dX5_readTree_49 : decode cX5_readTree 49 = .ok (.getfield 41, 3) := by decide +kernel
theorem dX5_readTree_52 : decode cX5_readTree 52 = .ok (.ifCond .ne 28, 3) := by decide +kernel
theorem dX5_readTree_55 : decode cX5_readTree 55 = .ok (.aload_n 0, 1) := by decide +kernel
theorem dX5_readTree_56 : decode cX5_readTree 56 = .ok (.getfield 38, 3) := by decide +kernel
theorem dX5_readTree_59 : decode cX5_readTree 59 = .ok (.aload_n 0, 1) := by decide +kernel
theorem dX5_readTree_60 : decode cX5_readTree 60 = .ok (.getfield 35, 3) := by decide +kernel
theorem dX5_readTree_63 : decode cX5_readTree 63 = .ok (.if_icmp .ge 17, 3) := by decide +kernel
theorem dX5_readTree_66 : decode cX5_readTree 66 = .ok (.aload_n 0, 1) := by decide +kernel
theorem dX5_readTree_67 : decode cX5_readTree 67 = .ok (.invokevirtual 50, 3) := by decide +kernel
theorem dX5_readTree_70 : decode cX5_readTree 70 = .ok (.aload_n 0, 1) := by decide +kernel
theorem dX5_readTree_71 : decode cX5_readTree 71 = .ok (.invokevirtual 47, 3) := by decide +kernel
theorem dX5_readTree_74 : decode cX5_readTree 74 = .ok (.iinc 2 1, 3) := by decide +kernel
theorem dX5_readTree_77 : decode cX5_readTree 77 = .ok (.goto (-36), 3) := by decide +kernel
theorem dX5_readTree_80 : decode cX5_readTree 80 = .ok (.return_, 1) := by decide +kernel
theorem dX5_fail_0 : decode cX5_fail 0 = .ok (.aload_n 0, 1) := by decide +kernel
theorem dX5_fail_1 : decode cX5_fail 1 = .ok (.getfield 41, 3) := by decide +kernel
theorem dX5_fail_4 : decode cX5_fail 4 = .ok (.ifCond .ne 16, 3) := by decide +kernel
theorem dX5_fail_7 : decode cX5_fail 7 = .ok (.aload_n 0, 1) := by decide +kernel
theorem dX5_fail_8 : decode cX5_fail 8 = .ok (.iload_n 1, 1) := by decide +kernel
theorem dX5_fail_9 : decode cX5_fail 9 = .ok (.putfield 41, 3) := by decide +kernel
theorem dX5_fail_12 : decode cX5_fail 12 = .ok (.aload_n 0, 1) := by decide +kernel
theorem dX5_fail_13 : decode cX5_fail 13 = .ok (.aload_n 0, 1) := by decide +kernel
theorem dX5_fail_14 : decode cX5_fail 14 = .ok (.getfield 53, 3) := by decide +kernel
theorem dX5_fail_17 : decode cX5_fail 17 = .ok (.putfield 18, 3) := by decide +kernel
theorem dX5_fail_20 : decode cX5_fail 20 = .ok (.return_, 1) := by decide +kernel
theorem dX5_beginToken_0 : decode cX5_beginToken 0 = .ok (.aload_n 0, 1) := by decide +kernel
theorem dX5_beginToken_1 : decode cX5_beginToken 1 = .ok (.getfield 38, 3) := by decide +kernel
theorem dX5_beginToken_4 : decode cX5_beginToken 4 = .ok (.aload_n 0, 1) := by decide +kernel
theorem dX5_beginToken_5 : decode cX5_beginToken 5 = .ok (.getfield 35, 3) := by decide +kernel
theorem dX5_beginToken_8 : decode cX5_beginToken 8 = .ok (.if_icmp .ge 30, 3) := by decide +kernel
theorem dX5_beginToken_11 : decode cX5_beginToken 11 = .ok (.aload_n 0, 1) := by decide +kernel
theorem dX5_beginToken_12 : decode cX5_beginToken 12 = .ok (.getfield 28, 3) := by decide +kernel
theorem dX5_beginToken_15 : decode cX5_beginToken 15 = .ok (.aload_n 0, 1) := by decide +kernel
theorem dX5_beginToken_16 : decode cX5_beginToken 16 = .ok (.getfield 38, 3) := by decide +kernel
theorem dX5_beginToken_19 : decode cX5_beginToken 19 = .ok (.baload, 1) := by decide +kernel
theorem dX5_beginToken_20 : decode cX5_beginToken 20 = .ok (.bipush 32, 2) := by decide +kernel
theorem dX5_beginToken_22 : decode cX5_beginToken 22 = .ok (.if_icmp .ne 16, 3) := by decide +kernel
theorem dX5_beginToken_25 : decode cX5_beginToken 25 = .ok (.aload_n 0, 1) := by decide +kernel
theorem dX5_beginToken_26 : decode cX5_beginToken 26 = .ok (.dup, 1) := by decide +kernel
theorem dX5_beginToken_27 : decode cX5_beginToken 27 = .ok (.getfield 38, 3) := by decide +kernel
theorem dX5_beginToken_30 : decode cX5_beginToken 30 = .ok (.iconst 1, 1) := by decide +kernel
theorem dX5_beginToken_31 : decode cX5_beginToken 31 = .ok (.iadd, 1) := by decide +kernel
theorem dX5_beginToken_32 : decode cX5_beginToken 32 = .ok (.putfield 38, 3) := by decide +kernel
theorem dX5_beginToken_35 : decode cX5_beginToken 35 = .ok (.goto (-35), 3) := by decide +kernel
theorem dX5_beginToken_38 : decode cX5_beginToken 38 = .ok (.aload_n 0, 1) := by decide +kernel
theorem dX5_beginToken_39 : decode cX5_beginToken 39 = .ok (.aload_n 0, 1) := by decide +kernel
theorem dX5_beginToken_40 : decode cX5_beginToken 40 = .ok (.getfield 38, 3) := by decide +kernel
theorem dX5_beginToken_43 : decode cX5_beginToken 43 = .ok (.putfield 53, 3) := by decide +kernel
theorem dX5_beginToken_46 : decode cX5_beginToken 46 = .ok (.return_, 1) := by decide +kernel
set_option maxRecDepth 20000 in
theorem ggX5_readStatement_X5_readWord : GoodIn wsX5_readStatement wsX5_readWord := goodIn_r _ [10, 11, 12, 13, 14, 15, 16, 17, 9, 18, 19, 20, 21, 22, 23, 24, 117, 118, 119, 120, 121, 122, 123] (by decide +kernel) (by decide +kernel)
set_option maxRecDepth 20000 in
theorem gX5_readStatement_X5_readWord : GoodIn wsX5_readStatement (wsV RX5 56 RX5 yX5_readWord wsX5_readWord) := goodIn_app (goodIn_of _ (by decide +kernel)) ggX5_readStatement_X5_readWord
set_option maxRecDepth 20000 in
theorem ggX5_readStatement_X5_readGrace : GoodIn wsX5_readStatement wsX5_readGrace := goodIn_r _ [28, 23, 29, 30, 31, 32, 33, 9, 34, 11, 12, 13, 35, 36, 37, 38, 39, 14, 15, 16, 17, 18, 19, 20, 21, 22, 24, 117, 118, 119, 120, 121, 122, 123, 124, 125, 126, 127, 128, 129] (by decide +kernel) (by decide +kernel)
set_option maxRecDepth 20000 in
theorem gX5_readStatement_X5_readGrace : GoodIn wsX5_readStatement (wsV RX5 62 RX5 yX5_readGrace wsX5_readGrace) := goodIn_app (goodIn_of _ (by decide +kernel)) ggX5_readStatement_X5_readGrace
set_option maxRecDepth 20000 in
theorem ggX5_readStatement_X5_readLimits : GoodIn wsX5_readStatement wsX5_readLimits := goodIn_r _ [43, 44, 23, 29, 45, 31, 32, 33, 9, 34, 11, 12, 13, 35, 36, 37, 38, 39, 14, 15, 16, 17, 18, 19, 20, 21, 22, 24, 46, 47, 48, 49, 50, 51, 52, 53, 54, 55, 117, 118, 119, 120, 121, 122, 123, 124, 125, 126, 127, 128, 129, 130, 131, 132, 133] (by decide +kernel) (by decide +kernel)
set_option maxRecDepth 20000 in
theorem gX5_readStatement_X5_readLimits : GoodIn wsX5_readStatement (wsV RX5 67 RX5 yX5_readLimits wsX5_readLimits) := goodIn_app (goodIn_of _ (by decide +kernel)) ggX5_readStatement_X5_readLimits
set_option maxRecDepth 20000 in
theorem ggX5_readStatement_X5_readFolder : GoodIn wsX5_readStatement wsX5_readFolder := goodIn_r _ [59, 29, 60, 23, 61, 62, 63, 64, 65, 66, 19, 20, 21, 9, 22, 14, 24, 6, 7, 8, 10, 11, 12, 13, 15, 16, 17, 18, 67, 68, 69, 70, 71, 72, 73, 74, 75, 76, 77, 78, 79, 80, 81, 82, 117, 118, 119, 120, 121, 122, 123, 124, 125, 126, 127, 128, 129, 134, 135, 136, 137] (by decide +kernel) (by decide +kernel)
set_option maxRecDepth 20000 in
theorem gX5_readStatement_X5_readFolder : GoodIn wsX5_readStatement (wsV RX5 72 RX5 yX5_readFolder wsX5_readFolder) := goodIn_app (goodIn_of _ (by decide +kernel)) ggX5_readStatement_X5_readFolder
set_option maxRecDepth 20000 in
theorem ggX5_readStatement_X5_readTag : GoodIn wsX5_readStatement wsX5_readTag := goodIn_r _ [86, 23, 29, 60, 72, 73, 74, 9, 75, 6, 7, 8, 10, 11, 12, 13, 14, 15, 16, 17, 18, 19, 20, 21, 22, 24, 67, 68, 69, 64, 70, 66, 71, 31, 32, 33, 34, 35, 36, 37, 38, 39, 87, 88, 89, 90, 81, 91, 92, 93, 94, 117, 118, 119, 120, 121, 122, 123, 124, 125, 126, 127, 128, 129, 134, 135, 136, 137] (by decide +kernel) (by decide +kernel)
set_option maxRecDepth 20000 in
theorem gX5_readStatement_X5_readTag : GoodIn wsX5_readStatement (wsV RX5 77 RX5 yX5_readTag wsX5_readTag) := goodIn_app (goodIn_of _ (by decide +kernel)) ggX5_readStatement_X5_readTag
set_option maxRecDepth 20000 in
theorem ggX5_readStatement_X5_readFile : GoodIn wsX5_readStatement wsX5_readFile := goodIn_r _ [98, 29, 99, 23, 100, 101, 102, 103, 104, 105, 19, 20, 21, 9, 22, 14, 24, 72, 73, 74, 75, 60, 6, 7, 8, 10, 11, 12, 13, 15, 16, 17, 18, 67, 68, 69, 64, 70, 66, 71, 31, 32, 33, 34, 35, 36, 37, 38, 39, 106, 107, 108, 109, 110, 111, 112, 117, 118, 119, 120, 121, 122, 123, 124, 125, 126, 127, 128, 129, 138, 139, 140, 134, 135, 136, 137] (by decide +kernel) (by decide +kernel)
set_option maxRecDepth 20000 in
theorem gX5_readStatement_X5_readFile : GoodIn wsX5_readStatement (wsV RX5 82 RX5 yX5_readFile wsX5_readFile) := goodIn_app (goodIn_of _ (by decide +kernel)) ggX5_readStatement_X5_readFile
set_option maxRecDepth 20000 in
theorem ggX5_readStatement_X5_fail : GoodIn wsX5_readStatement wsX5_fail := goodIn_r _ [22, 23, 14, 24, 117, 118, 119, 120, 121, 122, 123] (by decide +kernel) (by decide +kernel)
set_option maxRecDepth 20000 in
theorem gX5_readStatement_X5_fail : GoodIn wsX5_readStatement (wsV RX5 85 RX5 yX5_fail wsX5_fail) := goodIn_app (goodIn_of _ (by decide +kernel)) ggX5_readStatement_X5_fail
set_option maxRecDepth 20000 in
theorem ggX5_readStatement_X5_readSemicolon : GoodIn wsX5_readStatement wsX5_readSemicolon := goodIn_r _ [116, 11, 12, 13, 15, 16, 17, 9, 18, 14, 19, 20, 21, 22, 23, 24, 117, 118, 119, 120, 121, 122, 123] (by decide +kernel) (by decide +kernel)
set_option maxRecDepth 20000 in
theorem gX5_readStatement_X5_readSemicolon : GoodIn wsX5_readStatement (wsV RX5 89 RX5 yX5_readSemicolon wsX5_readSemicolon) := goodIn_app (goodIn_of _ (by decide +kernel)) ggX5_readStatement_X5_readSemicolon
theorem dX5_readStatement_0 : decode cX5_readStatement 0 = .ok (.aload_n 0, 1) := by decide +kernel
theorem dX5_readStatement_1 : decode cX5_readStatement 1 = .ok (.invokevirtual 56, 3) := by decide +kernel
theorem dX5_readStatement_4 : decode cX5_readStatement 4 = .ok (.lstore_n 1, 1) := by decide +kernel
theorem dX5_readStatement_5 : decode cX5_readStatement 5 = .ok (.lload_n 1, 1) := by decide +kernel
theorem dX5_readStatement_6 : decode cX5_readStatement 6 = .ok (.ldc2_w 60, 3) := by decide +kernel
theorem dX5_readStatement_9 : decode cX5_readStatement 9 = .ok (.lcmp, 1) := by decide +kernel
theorem dX5_readStatement_10 : decode cX5_readStatement 10 = .ok (.ifCond .ne 10, 3) := by decide +kernel
theorem dX5_readStatement_13 : decode cX5_readStatement 13 = .ok (.aload_n 0, 1) := by decide +kernel
theorem dX5_readStatement_14 : decode cX5_readStatement 14 = .ok (.invokevirtual 62, 3) := by decide +kernel
theorem dX5_readStatement_17 : decode cX5_readStatement 17 = .ok (.goto 69, 3) := by decide +kernel
theorem dX5_readStatement_20 : decode cX5_readStatement 20 = .ok (.lload_n 1, 1) := by decide +kernel
theorem dX5_readStatement_21 : decode cX5_readStatement 21 = .ok (.ldc2_w 65, 3) := by decide +kernel
theorem dX5_readStatement_24 : decode cX5_readStatement 24 = .ok (.lcmp, 1) := by decide +kernel
theorem dX5_readStatement_25 : decode cX5_readStatement 25 = .ok (.ifCond .ne 10, 3) := by decide +kernel
theorem dX5_readStatement_28 : decode cX5_readStatement 28 = .ok (.aload_n 0, 1) := by decide +kernel
theorem dX5_readStatement_29 : decode cX5_readStatement 29 = .ok (.invokevirtual 67, 3) := by decide +kernel
theorem dX5_readStatement_32 : decode cX5_readStatement 32 = .ok (.goto 54, 3) := by decide +kernel
theorem dX5_readStatement_35 : decode cX5_readStatement 35 = .ok (.lload_n 1, 1) := by decide +kernel
theorem dX5_readStatement_36 : decode cX5_readStatement 36 = .ok (.ldc2_w 70, 3) := by decide +kernel
theorem dX5_readStatement_39 : decode cX5_readStatement 39 = .ok (.lcmp, 1) := by decide +kernel
theorem dX5_readStatement_40 : decode cX5_readStatement 40 = .ok (.ifCond .ne 10, 3) := by decide +kernel
theorem dX5_readStatement_43 : decode cX5_readStatement 43 = .ok (.aload_n 0, 1) := by decide +kernel
theorem dX5_readStatement_44 : decode cX5_readStatement 44 = .ok (.invokevirtual 72, 3) := by decide +kernel
theorem dX5_readStatement_47 : decode cX5_readStatement 47 = .ok (.goto 39, 3) := by decide +kernel
theorem dX5_readStatement_50 : decode cX5_readStatement 50 = .ok (.lload_n 1, 1) := by decide +kernel
theorem dX5_readStatement_51 : decode cX5_readStatement 51 = .ok (.ldc2_w 75, 3) := by decide +kernel
theorem dX5_readStatement_54 : decode cX5_readStatement 54 = .ok (.lcmp, 1) := by decide +kernel
theorem dX5_readStatement_55 : decode cX5_readStatement 55 = .ok (.ifCond .ne 10, 3) := by decide +kernel
theorem dX5_readStatement_58 : decode cX5_readStatement 58 = .ok (.aload_n 0, 1) := by decide +kernel
theorem dX5_readStatement_59 : decode cX5_readStatement 59 = .ok (.invokevirtual 77, 3) := by decide +kernel
theorem dX5_readStatement_62 : decode cX5_readStatement 62 = .ok (.goto 24, 3) := by decide +kernel
theorem dX5_readStatement_65 : decode cX5_readStatement 65 = .ok (.lload_n 1, 1) := by decide +kernel
theorem dX5_readStatement_66 : decode cX5_readStatement 66 = .ok (.ldc2_w 80, 3) := by decide +kernel
theorem dX5_readStatement_69 : decode cX5_readStatement 69 = .ok (.lcmp, 1) := by decide +kernel
theorem dX5_readStatement_70 : decode cX5_readStatement 70 = .ok (.ifCond .ne 10, 3) := by decide +kernel
theorem dX5_readStatement_73 : decode cX5_readStatement 73 = .ok (.aload_n 0, 1) := by decide +kernel
theorem dX5_readStatement_74 : decode cX5_readStatement 74 = .ok (.invokevirtual 82, 3) := by decide +kernel
theorem dX5_readStatement_77 : decode cX5_readStatement 77 = .ok (.goto 9, 3) := by decide +kernel
theorem dX5_readStatement_80 : decode cX5_readStatement 80 = .ok (.aload_n 0, 1) := by decide +kernel
theorem dX5_readStatement_81 : decode cX5_readStatement 81 = .ok (.bipush (-2), 2) := by decide +kernel
theorem dX5_readStatement_83 : decode cX5_readStatement 83 = .ok (.invokevirtual 85, 3) := by decide +kernel
theorem dX5_readStatement_86 : decode cX5_readStatement 86 = .ok (.aload_n 0, 1) := by decide +kernel
theorem dX5_readStatement_87 : decode cX5_readStatement 87 = .ok (.invokevirtual 89, 3) := by decide +kernel
theorem dX5_readStatement_90 : decode cX5_readStatement 90 = .ok (.return_, 1) := by decide +kernel
set_option maxRecDepth 20000 in
theorem ggX5_readGrace_X5_readNumber : GoodIn wsX5_readGrace wsX5_readNumber := goodIn_r _ [8, 9, 10, 11, 12, 13, 14, 15, 16, 17, 18, 19, 20, 7, 21, 22, 23, 24, 25, 1, 26, 27, 28, 29, 30, 31, 32, 33] (by decide +kernel) (by decide +kernel)
set_option maxRecDepth 20000 in
theorem gX5_readGrace_X5_readNumber : GoodIn wsX5_readGrace (wsV RX5 92 RX5 yX5_readNumber wsX5_readNumber) := goodIn_app (goodIn_of _ (by decide +kernel)) ggX5_readGrace_X5_readNumber
theorem dX5_readGrace_0 : decode cX5_readGrace 0 = .ok (.aload_n 0, 1) := by decide +kernel
theorem dX5_readGrace_1 : decode cX5_readGrace 1 = .ok (.iconst 1, 1) := by decide +kernel
theorem dX5_readGrace_2 : decode cX5_readGrace 2 = .ok (.bipush 99, 2) := by decide +kernel
theorem dX5_readGrace_4 : decode cX5_readGrace 4 = .ok (.invokevirtual 92, 3) := by decide +kernel
theorem dX5_readGrace_7 : decode cX5_readGrace 7 = .ok (.istore_n 1, 1) := by decide +kernel
theorem dX5_readGrace_8 : decode cX5_readGrace 8 = .ok (.aload_n 0, 1) := by decide +kernel
theorem dX5_readGrace_9 : decode cX5_readGrace 9 = .ok (.getfield 41, 3) := by decide +kernel
theorem dX5_readGrace_12 : decode cX5_readGrace 12 = .ok (.ifCond .ne 11, 3) := by decide +kernel
theorem dX5_readGrace_15 : decode cX5_readGrace 15 = .ok (.aload_n 0, 1) := by decide +kernel
theorem dX5_readGrace_16 : decode cX5_readGrace 16 = .ok (.getfield 12, 3) := by decide +kernel
theorem dX5_readGrace_19 : decode cX5_readGrace 19 = .ok (.iload_n 1, 1) := by decide +kernel
theorem dX5_readGrace_20 : decode cX5_readGrace 20 = .ok (.putfield 95, 3) := by decide +kernel
theorem dX5_readGrace_23 : decode cX5_readGrace 23 = .ok (.return_, 1) := by decide +kernel
set_option maxRecDepth 20000 in
theorem ggX5_readLimits_X5_readNumber : GoodIn wsX5_readLimits wsX5_readNumber := goodIn_r _ [9, 10, 11, 12, 13, 14, 15, 16, 17, 18, 19, 20, 21, 8, 22, 23, 24, 25, 26, 2, 27, 38, 39, 40, 41, 42, 43, 44] (by decide +kernel) (by decide +kernel)
set_option maxRecDepth 20000 in
theorem gX5_readLimits_X5_readNumber : GoodIn wsX5_readLimits (wsV RX5 92 RX5 yX5_readNumber wsX5_readNumber) := goodIn_app (goodIn_of _ (by decide +kernel)) ggX5_readLimits_X5_readNumber
set_option maxRecDepth 20000 in
theorem ggX5_readLimits_X5_fail : GoodIn wsX5_readLimits wsX5_fail := goodIn_r _ [26, 2, 18, 27, 38, 39, 40, 41, 42, 43, 44] (by decide +kernel) (by decide +kernel)
set_option maxRecDepth 20000 in
theorem gX5_readLimits_X5_fail : GoodIn wsX5_readLimits (wsV RX5 85 RX5 yX5_fail wsX5_fail) := goodIn_app (goodIn_of _ (by decide +kernel)) ggX5_readLimits_X5_fail
set_option maxRecDepth 20000 in
theorem ggX5_readLimits_X7_accountOf : GoodIn wsX5_readLimits wsX7_accountOf := goodIn_r _ [30] (by decide +kernel) (by decide +kernel)
set_option maxRecDepth 20000 in
theorem gX5_readLimits_X7_accountOf_n103 : GoodIn wsX5_readLimits (wsX7_accountOf) := ggX5_readLimits_X7_accountOf
set_option maxRecDepth 20000 in
theorem ggX5_readLimits_X0_setLimits : GoodIn wsX5_readLimits wsX0_setLimits := goodIn_r _ [35, 36, 37, 51, 52, 53, 54] (by decide +kernel) (by decide +kernel)
set_option maxRecDepth 20000 in
theorem gX5_readLimits_X0_setLimits : GoodIn wsX5_readLimits (wsV RX5 106 RX0 yX0_setLimits wsX0_setLimits) := goodIn_app (goodIn_of _ (by decide +kernel)) ggX5_readLimits_X0_setLimits
theorem dX5_readLimits_0 : decode cX5_readLimits 0 = .ok (.aload_n 0, 1) := by decide +kernel
theorem dX5_readLimits_1 : decode cX5_readLimits 1 = .ok (.iconst 0, 1) := by decide +kernel
theorem dX5_readLimits_2 : decode cX5_readLimits 2 = .ok (.bipush 7, 2) := by decide +kernel
theorem dX5_readLimits_4 : decode cX5_readLimits 4 = .ok (.invokevirtual 92, 3) := by decide +kernel
theorem dX5_readLimits_7 : decode cX5_readLimits 7 = .ok (.istore_n 1, 1) := by decide +kernel
theorem dX5_readLimits_8 : decode cX5_readLimits 8 = .ok (.iconst 0, 1) := by decide +kernel
theorem dX5_readLimits_9 : decode cX5_readLimits 9 = .ok (.istore_n 2, 1) := by decide +kernel
theorem dX5_readLimits_10 : decode cX5_readLimits 10 = .ok (.iload_n 2, 1) := by decide +kernel
theorem dX5_readLimits_11 : decode cX5_readLimits 11 = .ok (.iconst 2, 1) := by decide +kernel
theorem dX5_readLimits_12 : decode cX5_readLimits 12 = .ok (.if_icmp .ge 68, 3) := by decide +kernel
theorem dX5_readLimits_15 : decode cX5_readLimits 15 = .ok (.aload_n 0, 1) := by decide +kernel
theorem dX5_readLimits_16 : decode cX5_readLimits 16 = .ok (.iconst 0, 1) := by decide +kernel
theorem dX5_readLimits_17 : decode cX5_readLimits 17 = .ok (.ldc 98, 2) := by decide +kernel
theorem dX5_readLimits_19 : decode cX5_readLimits 19 = .ok (.invokevirtual 92, 3) := by decide +kernel
theorem dX5_readLimits_22 : decode cX5_readLimits 22 = .ok (.istore_n 3, 1) := by decide +kernel
theorem dX5_readLimits_23 : decode cX5_readLimits 23 = .ok (.aload_n 0, 1) := by decide +kernel
theorem dX5_readLimits_24 : decode cX5_readLimits 24 = .ok (.iconst 0, 1) := by decide +kernel
theorem dX5_readLimits_25 : decode cX5_readLimits 25 = .ok (.ldc 98, 2) := by decide +kernel
theorem dX5_readLimits_27 : decode cX5_readLimits 27 = .ok (.invokevirtual 92, 3) := by decide +kernel
theorem dX5_readLimits_30 : decode cX5_readLimits 30 = .ok (.istore 4, 2) := by decide +kernel
theorem dX5_readLimits_32 : decode cX5_readLimits 32 = .ok (.iload 4, 2) := by decide +kernel
theorem dX5_readLimits_34 : decode cX5_readLimits 34 = .ok (.ifCond .le 15, 3) := by decide +kernel
theorem dX5_readLimits_37 : decode cX5_readLimits 37 = .ok (.iload 4, 2) := by decide +kernel
theorem dX5_readLimits_39 : decode cX5_readLimits 39 = .ok (.iload_n 3, 1) := by decide +kernel
theorem dX5_readLimits_40 : decode cX5_readLimits 40 = .ok (.if_icmp .ge 9, 3) := by decide +kernel
theorem dX5_readLimits_43 : decode cX5_readLimits 43 = .ok (.aload_n 0, 1) := by decide +kernel
theorem dX5_readLimits_44 : decode cX5_readLimits 44 = .ok (.bipush (-3), 2) := by decide +kernel
theorem dX5_readLimits_46 : decode cX5_readLimits 46 = .ok (.invokevirtual 85, 3) := by decide +kernel
theorem dX5_readLimits_49 : decode cX5_readLimits 49 = .ok (.aload_n 0, 1) := by decide +kernel
theorem dX5_readLimits_50 : decode cX5_readLimits 50 = .ok (.getfield 41, 3) := by decide +kernel
theorem dX5_readLimits_53 : decode cX5_readLimits 53 = .ok (.ifCond .ne 21, 3) := by decide +kernel
theorem dX5_readLimits_56 : decode cX5_readLimits 56 = .ok (.aload_n 0, 1) := by decide +kernel
theorem dX5_readLimits_57 : decode cX5_readLimits 57 = .ok (.getfield 12, 3) := by decide +kernel
theorem dX5_readLimits_60 : decode cX5_readLimits 60 = .ok (.getfield 99, 3) := by decide +kernel
theorem dX5_readLimits_63 : decode cX5_readLimits 63 = .ok (.iload_n 1, 1) := by decide +kernel
theorem dX5_readLimits_64 : decode cX5_readLimits 64 = .ok (.iload_n 2, 1) := by decide +kernel
theorem dX5_readLimits_65 : decode cX5_readLimits 65 = .ok (.invokestatic 103, 3) := by decide +kernel
theorem dX5_readLimits_68 : decode cX5_readLimits 68 = .ok (.iload_n 3, 1) := by decide +kernel
theorem dX5_readLimits_69 : decode cX5_readLimits 69 = .ok (.iload 4, 2) := by decide +kernel
theorem dX5_readLimits_71 : decode cX5_readLimits 71 = .ok (.invokevirtual 106, 3) := by decide +kernel
theorem dX5_readLimits_74 : decode cX5_readLimits 74 = .ok (.iinc 2 1, 3) := by decide +kernel
theorem dX5_readLimits_77 : decode cX5_readLimits 77 = .ok (.goto (-67), 3) := by decide +kernel
theorem dX5_readLimits_80 : decode cX5_readLimits 80 = .ok (.return_, 1) := by decide +kernel
set_option maxRecDepth 20000 in
theorem ggX5_readFolder_X3_isFull : GoodIn wsX5_readFolder wsX3_isFull := goodIn_r _ [8, 9, 57, 58, 59, 60] (by decide +kernel) (by decide +kernel)
set_option maxRecDepth 20000 in
theorem gX5_readFolder_X3_isFull : GoodIn wsX5_readFolder (wsV RX5 116 RX3 yX3_isFull wsX3_isFull) := goodIn_app (goodIn_of _ (by decide +kernel)) ggX5_readFolder_X3_isFull
set_option maxRecDepth 20000 in
theorem ggX5_readFolder_X5_fail : GoodIn wsX5_readFolder wsX5_fail := goodIn_r _ [14, 3, 15, 16, 44, 45, 46, 47, 48, 49, 50] (by decide +kernel) (by decide +kernel)
set_option maxRecDepth 20000 in
theorem gX5_readFolder_X5_fail : GoodIn wsX5_readFolder (wsV RX5 85 RX5 yX5_fail wsX5_fail) := goodIn_app (goodIn_of _ (by decide +kernel)) ggX5_readFolder_X5_fail
set_option maxRecDepth 20000 in
theorem ggX5_readFolder_X5_readWord : GoodIn wsX5_readFolder wsX5_readWord := goodIn_r _ [20, 21, 22, 23, 15, 24, 25, 26, 13, 27, 10, 11, 12, 14, 3, 16, 44, 45, 46, 47, 48, 49, 50] (by decide +kernel) (by decide +kernel)
set_option maxRecDepth 20000 in
theorem gX5_readFolder_X5_readWord : GoodIn wsX5_readFolder (wsV RX5 56 RX5 yX5_readWord wsX5_readWord) := goodIn_app (goodIn_of _ (by decide +kernel)) ggX5_readFolder_X5_readWord
set_option maxRecDepth 20000 in
theorem ggX5_readFolder_X3_numberOf : GoodIn wsX5_readFolder wsX3_numberOf := goodIn_r _ [31, 9, 32, 57, 58, 59, 60] (by decide +kernel) (by decide +kernel)
set_option maxRecDepth 20000 in
theorem gX5_readFolder_X3_numberOf : GoodIn wsX5_readFolder (wsV RX5 122 RX3 yX3_numberOf wsX3_numberOf) := goodIn_app (goodIn_of _ (by decide +kernel)) ggX5_readFolder_X3_numberOf
set_option maxRecDepth 20000 in
theorem ggX5_readFolder_X5_readFolderName : GoodIn wsX5_readFolder wsX5_readFolderName := goodIn_r _ [36, 1, 2, 17, 18, 19, 13, 20, 21, 22, 23, 15, 24, 25, 26, 27, 10, 11, 12, 14, 3, 16, 28, 29, 30, 7, 31, 9, 32, 44, 45, 46, 47, 48, 49, 50, 51, 52, 53, 54, 55, 56, 57, 58, 59, 60] (by decide +kernel) (by decide +kernel)
set_option maxRecDepth 20000 in
theorem gX5_readFolder_X5_readFolderName : GoodIn wsX5_readFolder (wsV RX5 126 RX5 yX5_readFolderName wsX5_readFolderName) := goodIn_app (goodIn_of _ (by decide +kernel)) ggX5_readFolder_X5_readFolderName
set_option maxRecDepth 20000 in
theorem ggX5_readFolder_X3_add : GoodIn wsX5_readFolder wsX3_add := goodIn_r _ [40, 41, 9, 32, 42, 43, 5, 6, 7, 8, 57, 58, 59, 60] (by decide +kernel) (by decide +kernel)
set_option maxRecDepth 20000 in
theorem gX5_readFolder_X3_add : GoodIn wsX5_readFolder (wsV RX5 130 RX3 yX3_add wsX3_add) := goodIn_app (goodIn_of _ (by decide +kernel)) ggX5_readFolder_X3_add
theorem dX5_readFolder_0 : decode cX5_readFolder 0 = .ok (.aload_n 0, 1) := by decide +kernel
theorem dX5_readFolder_1 : decode cX5_readFolder 1 = .ok (.getfield 12, 3) := by decide +kernel
theorem dX5_readFolder_4 : decode cX5_readFolder 4 = .ok (.getfield 112, 3) := by decide +kernel
theorem dX5_readFolder_7 : decode cX5_readFolder 7 = .ok (.invokevirtual 116, 3) := by decide +kernel
theorem dX5_readFolder_10 : decode cX5_readFolder 10 = .ok (.ifCond .eq 9, 3) := by decide +kernel
theorem dX5_readFolder_13 : decode cX5_readFolder 13 = .ok (.aload_n 0, 1) := by decide +kernel
theorem dX5_readFolder_14 : decode cX5_readFolder 14 = .ok (.bipush (-4), 2) := by decide +kernel
theorem dX5_readFolder_16 : decode cX5_readFolder 16 = .ok (.invokevirtual 85, 3) := by decide +kernel
theorem dX5_readFolder_19 : decode cX5_readFolder 19 = .ok (.aload_n 0, 1) := by decide +kernel
theorem dX5_readFolder_20 : decode cX5_readFolder 20 = .ok (.invokevirtual 56, 3) := by decide +kernel
theorem dX5_readFolder_23 : decode cX5_readFolder 23 = .ok (.lstore_n 1, 1) := by decide +kernel
theorem dX5_readFolder_24 : decode cX5_readFolder 24 = .ok (.aload_n 0, 1) := by decide +kernel
theorem dX5_readFolder_25 : decode cX5_readFolder 25 = .ok (.getfield 12, 3) := by decide +kernel
theorem dX5_readFolder_28 : decode cX5_readFolder 28 = .ok (.getfield 112, 3) := by decide +kernel
theorem dX5_readFolder_31 : decode cX5_readFolder 31 = .ok (.lload_n 1, 1) := by decide +kernel
theorem dX5_readFolder_32 : decode cX5_readFolder 32 = .ok (.invokevirtual 122, 3) := by decide +kernel
theorem dX5_readFolder_35 : decode cX5_readFolder 35 = .ok (.iconst (-1), 1) := by decide +kernel
theorem dX5_readFolder_36 : decode cX5_readFolder 36 = .ok (.if_icmp .eq 9, 3) := by decide +kernel
theorem dX5_readFolder_39 : decode cX5_readFolder 39 = .ok (.aload_n 0, 1) := by decide +kernel
theorem dX5_readFolder_40 : decode cX5_readFolder 40 = .ok (.bipush (-3), 2) := by decide +kernel
theorem dX5_readFolder_42 : decode cX5_readFolder 42 = .ok (.invokevirtual 85, 3) := by decide +kernel
theorem dX5_readFolder_45 : decode cX5_readFolder 45 = .ok (.aload_n 0, 1) := by decide +kernel
theorem dX5_readFolder_46 : decode cX5_readFolder 46 = .ok (.invokevirtual 126, 3) := by decide +kernel
theorem dX5_readFolder_49 : decode cX5_readFolder 49 = .ok (.istore_n 3, 1) := by decide +kernel
theorem dX5_readFolder_50 : decode cX5_readFolder 50 = .ok (.aload_n 0, 1) := by decide +kernel
theorem dX5_readFolder_51 : decode cX5_readFolder 51 = .ok (.getfield 41, 3) := by decide +kernel
theorem dX5_readFolder_54 : decode cX5_readFolder 54 = .ok (.ifCond .ne 15, 3) := by decide +kernel
theorem dX5_readFolder_57 : decode cX5_readFolder 57 = .ok (.aload_n 0, 1) := by decide +kernel
theorem dX5_readFolder_58 : decode cX5_readFolder 58 = .ok (.getfield 12, 3) := by decide +kernel
theorem dX5_readFolder_61 : decode cX5_readFolder 61 = .ok (.getfield 112, 3) := by decide +kernel
theorem dX5_readFolder_64 : decode cX5_readFolder 64 = .ok (.iload_n 3, 1) := by decide +kernel
theorem dX5_readFolder_65 : decode cX5_readFolder 65 = .ok (.lload_n 1, 1) := by decide +kernel
theorem dX5_readFolder_66 : decode cX5_readFolder 66 = .ok (.invokevirtual 130, 3) := by decide +kernel
theorem dX5_readFolder_69 : decode cX5_readFolder 69 = .ok (.return_, 1) := by decide +kernel
set_option maxRecDepth 20000 in
theorem ggX5_readTag_X5_readFolderName : GoodIn wsX5_readTag wsX5_readFolderName := goodIn_r _ [8, 2, 3, 9, 10, 11, 7, 12, 13, 14, 15, 16, 17, 18, 19, 20, 21, 22, 23, 24, 1, 25, 26, 27, 28, 29, 30, 31, 32, 51, 52, 53, 54, 55, 56, 57, 58, 59, 60, 61, 62, 63, 64, 65, 66, 67] (by decide +kernel) (by decide +kernel)
set_option maxRecDepth 20000 in
theorem gX5_readTag_X5_readFolderName : GoodIn wsX5_readTag (wsV RX5 126 RX5 yX5_readFolderName wsX5_readFolderName) := goodIn_app (goodIn_of _ (by decide +kernel)) ggX5_readTag_X5_readFolderName
set_option maxRecDepth 20000 in
theorem ggX5_readTag_X5_readNumber : GoodIn wsX5_readTag wsX5_readNumber := goodIn_r _ [36, 13, 14, 15, 37, 38, 39, 40, 41, 16, 17, 18, 19, 7, 20, 21, 22, 23, 24, 1, 25, 51, 52, 53, 54, 55, 56, 57] (by decide +kernel) (by decide +kernel)
set_option maxRecDepth 20000 in
theorem gX5_readTag_X5_readNumber : GoodIn wsX5_readTag (wsV RX5 92 RX5 yX5_readNumber wsX5_readNumber) := goodIn_app (goodIn_of _ (by decide +kernel)) ggX5_readTag_X5_readNumber
set_option maxRecDepth 20000 in
theorem ggX5_readTag_X3_setTag : GoodIn wsX5_readTag wsX3_setTag := goodIn_r _ [45, 46, 47, 48, 49, 29, 50, 31, 64, 65, 66, 67] (by decide +kernel) (by decide +kernel)
set_option maxRecDepth 20000 in
theorem gX5_readTag_X3_setTag : GoodIn wsX5_readTag (wsV RX5 134 RX3 yX3_setTag wsX3_setTag) := goodIn_app (goodIn_of _ (by decide +kernel)) ggX5_readTag_X3_setTag
theorem dX5_readTag_0 : decode cX5_readTag 0 = .ok (.aload_n 0, 1) := by decide +kernel
theorem dX5_readTag_1 : decode cX5_readTag 1 = .ok (.invokevirtual 126, 3) := by decide +kernel
theorem dX5_readTag_4 : decode cX5_readTag 4 = .ok (.istore_n 1, 1) := by decide +kernel
theorem dX5_readTag_5 : decode cX5_readTag 5 = .ok (.aload_n 0, 1) := by decide +kernel
theorem dX5_readTag_6 : decode cX5_readTag 6 = .ok (.iconst 0, 1) := by decide +kernel
theorem dX5_readTag_7 : decode cX5_readTag 7 = .ok (.bipush 7, 2) := by decide +kernel
theorem dX5_readTag_9 : decode cX5_readTag 9 = .ok (.invokevirtual 92, 3) := by decide +kernel
theorem dX5_readTag_12 : decode cX5_readTag 12 = .ok (.istore_n 2, 1) := by decide +kernel
theorem dX5_readTag_13 : decode cX5_readTag 13 = .ok (.aload_n 0, 1) := by decide +kernel
theorem dX5_readTag_14 : decode cX5_readTag 14 = .ok (.getfield 41, 3) := by decide +kernel
theorem dX5_readTag_17 : decode cX5_readTag 17 = .ok (.ifCond .ne 15, 3) := by decide +kernel
theorem dX5_readTag_20 : decode cX5_readTag 20 = .ok (.aload_n 0, 1) := by decide +kernel
theorem dX5_readTag_21 : decode cX5_readTag 21 = .ok (.getfield 12, 3) := by decide +kernel
theorem dX5_readTag_24 : decode cX5_readTag 24 = .ok (.getfield 112, 3) := by decide +kernel
theorem dX5_readTag_27 : decode cX5_readTag 27 = .ok (.iload_n 1, 1) := by decide +kernel
theorem dX5_readTag_28 : decode cX5_readTag 28 = .ok (.iload_n 2, 1) := by decide +kernel
theorem dX5_readTag_29 : decode cX5_readTag 29 = .ok (.invokevirtual 134, 3) := by decide +kernel
theorem dX5_readTag_32 : decode cX5_readTag 32 = .ok (.return_, 1) := by decide +kernel
set_option maxRecDepth 20000 in
theorem ggX5_readFile_X2_isFull : GoodIn wsX5_readFile wsX2_isFull := goodIn_r _ [8, 9, 69, 70, 71] (by decide +kernel) (by decide +kernel)
set_option maxRecDepth 20000 in
theorem gX5_readFile_X2_isFull : GoodIn wsX5_readFile (wsV RX5 142 RX2 yX2_isFull wsX2_isFull) := goodIn_app (goodIn_of _ (by decide +kernel)) ggX5_readFile_X2_isFull
set_option maxRecDepth 20000 in
theorem ggX5_readFile_X5_fail : GoodIn wsX5_readFile wsX5_fail := goodIn_r _ [14, 3, 15, 16, 56, 57, 58, 59, 60, 61, 62] (by decide +kernel) (by decide +kernel)
set_option maxRecDepth 20000 in
theorem gX5_readFile_X5_fail : GoodIn wsX5_readFile (wsV RX5 85 RX5 yX5_fail wsX5_fail) := goodIn_app (goodIn_of _ (by decide +kernel)) ggX5_readFile_X5_fail
set_option maxRecDepth 20000 in
theorem ggX5_readFile_X5_readFolderName : GoodIn wsX5_readFile wsX5_readFolderName := goodIn_r _ [20, 1, 21, 22, 23, 24, 13, 25, 26, 27, 28, 15, 29, 30, 31, 32, 10, 11, 12, 14, 3, 16, 33, 34, 35, 36, 37, 38, 39, 56, 57, 58, 59, 60, 61, 62, 63, 64, 65, 66, 67, 68, 72, 73, 74, 75] (by decide +kernel) (by decide +kernel)
set_option maxRecDepth 20000 in
theorem gX5_readFile_X5_readFolderName : GoodIn wsX5_readFile (wsV RX5 126 RX5 yX5_readFolderName wsX5_readFolderName) := goodIn_app (goodIn_of _ (by decide +kernel)) ggX5_readFile_X5_readFolderName
set_option maxRecDepth 20000 in
theorem ggX5_readFile_X5_readNumber : GoodIn wsX5_readFile wsX5_readNumber := goodIn_r _ [43, 26, 27, 28, 44, 45, 46, 47, 48, 15, 29, 30, 31, 13, 32, 10, 11, 12, 14, 3, 16, 56, 57, 58, 59, 60, 61, 62] (by decide +kernel) (by decide +kernel)
set_option maxRecDepth 20000 in
theorem gX5_readFile_X5_readNumber : GoodIn wsX5_readFile (wsV RX5 92 RX5 yX5_readNumber wsX5_readNumber) := goodIn_app (goodIn_of _ (by decide +kernel)) ggX5_readFile_X5_readNumber
set_option maxRecDepth 20000 in
theorem ggX5_readFile_X2_add : GoodIn wsX5_readFile wsX2_add := goodIn_r _ [52, 53, 9, 54, 55, 5, 6, 7, 8, 69, 70, 71] (by decide +kernel) (by decide +kernel)
set_option maxRecDepth 20000 in
theorem gX5_readFile_X2_add : GoodIn wsX5_readFile (wsV RX5 145 RX2 yX2_add wsX2_add) := goodIn_app (goodIn_of _ (by decide +kernel)) ggX5_readFile_X2_add
theorem dX5_readFile_0 : decode cX5_readFile 0 = .ok (.aload_n 0, 1) := by decide +kernel
theorem dX5_readFile_1 : decode cX5_readFile 1 = .ok (.getfield 12, 3) := by decide +kernel
theorem dX5_readFile_4 : decode cX5_readFile 4 = .ok (.getfield 138, 3) := by decide +kernel
theorem dX5_readFile_7 : decode cX5_readFile 7 = .ok (.invokevirtual 142, 3) := by decide +kernel
theorem dX5_readFile_10 : decode cX5_readFile 10 = .ok (.ifCond .eq 9, 3) := by decide +kernel
theorem dX5_readFile_13 : decode cX5_readFile 13 = .ok (.aload_n 0, 1) := by decide +kernel
theorem dX5_readFile_14 : decode cX5_readFile 14 = .ok (.bipush (-4), 2) := by decide +kernel
theorem dX5_readFile_16 : decode cX5_readFile 16 = .ok (.invokevirtual 85, 3) := by decide +kernel
theorem dX5_readFile_19 : decode cX5_readFile 19 = .ok (.aload_n 0, 1) := by decide +kernel
theorem dX5_readFile_20 : decode cX5_readFile 20 = .ok (.invokevirtual 126, 3) := by decide +kernel
theorem dX5_readFile_23 : decode cX5_readFile 23 = .ok (.istore_n 1, 1) := by decide +kernel
theorem dX5_readFile_24 : decode cX5_readFile 24 = .ok (.aload_n 0, 1) := by decide +kernel
theorem dX5_readFile_25 : decode cX5_readFile 25 = .ok (.iconst 0, 1) := by decide +kernel
theorem dX5_readFile_26 : decode cX5_readFile 26 = .ok (.sipush 9999, 3) := by decide +kernel
theorem dX5_readFile_29 : decode cX5_readFile 29 = .ok (.invokevirtual 92, 3) := by decide +kernel
theorem dX5_readFile_32 : decode cX5_readFile 32 = .ok (.istore_n 2, 1) := by decide +kernel
theorem dX5_readFile_33 : decode cX5_readFile 33 = .ok (.aload_n 0, 1) := by decide +kernel
theorem dX5_readFile_34 : decode cX5_readFile 34 = .ok (.getfield 41, 3) := by decide +kernel
theorem dX5_readFile_37 : decode cX5_readFile 37 = .ok (.ifCond .ne 15, 3) := by decide +kernel
theorem dX5_readFile_40 : decode cX5_readFile 40 = .ok (.aload_n 0, 1) := by decide +kernel
theorem dX5_readFile_41 : decode cX5_readFile 41 = .ok (.getfield 12, 3) := by decide +kernel
theorem dX5_readFile_44 : decode cX5_readFile 44 = .ok (.getfield 138, 3) := by decide +kernel
theorem dX5_readFile_47 : decode cX5_readFile 47 = .ok (.iload_n 1, 1) := by decide +kernel
theorem dX5_readFile_48 : decode cX5_readFile 48 = .ok (.iload_n 2, 1) := by decide +kernel
theorem dX5_readFile_49 : decode cX5_readFile 49 = .ok (.invokevirtual 145, 3) := by decide +kernel
theorem dX5_readFile_52 : decode cX5_readFile 52 = .ok (.return_, 1) := by decide +kernel
set_option maxRecDepth 20000 in
theorem ggX5_readWord_X5_beginToken : GoodIn wsX5_readWord wsX5_beginToken := goodIn_r _ [9, 1, 2, 3, 4, 16, 17, 18, 19, 20, 21, 22] (by decide +kernel) (by decide +kernel)
set_option maxRecDepth 20000 in
theorem gX5_readWord_X5_beginToken : GoodIn wsX5_readWord (wsV RX5 47 RX5 yX5_beginToken wsX5_beginToken) := goodIn_app (goodIn_of _ (by decide +kernel)) ggX5_readWord_X5_beginToken
set_option maxRecDepth 20000 in
theorem ggX5_readWord_X5_fail : GoodIn wsX5_readWord wsX5_fail := goodIn_r _ [13, 14, 4, 15, 16, 17, 18, 19, 20, 21, 22] (by decide +kernel) (by decide +kernel)
set_option maxRecDepth 20000 in
theorem gX5_readWord_X5_fail : GoodIn wsX5_readWord (wsV RX5 85 RX5 yX5_fail wsX5_fail) := goodIn_app (goodIn_of _ (by decide +kernel)) ggX5_readWord_X5_fail
theorem dX5_readWord_0 : decode cX5_readWord 0 = .ok (.aload_n 0, 1) := by decide +kernel
theorem dX5_readWord_1 : decode cX5_readWord 1 = .ok (.invokevirtual 47, 3) := by decide +kernel
theorem dX5_readWord_4 : decode cX5_readWord 4 = .ok (.lconst 0, 1) := by decide +kernel
theorem dX5_readWord_5 : decode cX5_readWord 5 = .ok (.lstore_n 1, 1) := by decide +kernel
theorem dX5_readWord_6 : decode cX5_readWord 6 = .ok (.aload_n 0, 1) := by decide +kernel
theorem dX5_readWord_7 : decode cX5_readWord 7 = .ok (.getfield 38, 3) := by decide +kernel
theorem dX5_readWord_10 : decode cX5_readWord 10 = .ok (.aload_n 0, 1) := by decide +kernel
theorem dX5_readWord_11 : decode cX5_readWord 11 = .ok (.getfield 35, 3) := by decide +kernel
theorem dX5_readWord_14 : decode cX5_readWord 14 = .ok (.if_icmp .ge 64, 3) := by decide +kernel
theorem dX5_readWord_17 : decode cX5_readWord 17 = .ok (.aload_n 0, 1) := by decide +kernel
theorem dX5_readWord_18 : decode cX5_readWord 18 = .ok (.getfield 28, 3) := by decide +kernel
theorem dX5_readWord_21 : decode cX5_readWord 21 = .ok (.aload_n 0, 1) := by decide +kernel
theorem dX5_readWord_22 : decode cX5_readWord 22 = .ok (.getfield 38, 3) := by decide +kernel
theorem dX5_readWord_25 : decode cX5_readWord 25 = .ok (.baload, 1) := by decide +kernel
theorem dX5_readWord_26 : decode cX5_readWord 26 = .ok (.bipush 97, 2) := by decide +kernel
theorem dX5_readWord_28 : decode cX5_readWord 28 = .ok (.if_icmp .lt 50, 3) := by decide +kernel
theorem dX5_readWord_31 : decode cX5_readWord 31 = .ok (.aload_n 0, 1) := by decide +kernel
theorem dX5_readWord_32 : decode cX5_readWord 32 = .ok (.getfield 28, 3) := by decide +kernel
theorem dX5_readWord_35 : decode cX5_readWord 35 = .ok (.aload_n 0, 1) := by decide +kernel
theorem dX5_readWord_36 : decode cX5_readWord 36 = .ok (.getfield 38, 3) := by decide +kernel
theorem dX5_readWord_39 : decode cX5_readWord 39 = .ok (.baload, 1) := by decide +kernel
theorem dX5_readWord_40 : decode cX5_readWord 40 = .ok (.bipush 122, 2) := by decide +kernel
theorem dX5_readWord_42 : decode cX5_readWord 42 = .ok (.if_icmp .gt 36, 3) := by decide +kernel
theorem dX5_readWord_45 : decode cX5_readWord 45 = .ok (.lload_n 1, 1) := by decide +kernel
theorem dX5_readWord_46 : decode cX5_readWord 46 = .ok (.iconst 5, 1) := by decide +kernel
theorem dX5_readWord_47 : decode cX5_readWord 47 = .ok (.lshl, 1) := by decide +kernel
theorem dX5_readWord_48 : decode cX5_readWord 48 = .ok (.aload_n 0, 1) := by decide +kernel
theorem dX5_readWord_49 : decode cX5_readWord 49 = .ok (.getfield 28, 3) := by decide +kernel
theorem dX5_readWord_52 : decode cX5_readWord 52 = .ok (.aload_n 0, 1) := by decide +kernel
theorem dX5_readWord_53 : decode cX5_readWord 53 = .ok (.getfield 38, 3) := by decide +kernel
theorem dX5_readWord_56 : decode cX5_readWord 56 = .ok (.baload, 1) := by decide +kernel
theorem dX5_readWord_57 : decode cX5_readWord 57 = .ok (.bipush 97, 2) := by decide +kernel
theorem dX5_readWord_59 : decode cX5_readWord 59 = .ok (.isub, 1) := by decide +kernel
theorem dX5_readWord_60 : decode cX5_readWord 60 = .ok (.iconst 1, 1) := by decide +kernel
theorem dX5_readWord_61 : decode cX5_readWord 61 = .ok (.iadd, 1) := by decide +kernel
theorem dX5_readWord_62 : decode cX5_readWord 62 = .ok (.i2l, 1) := by decide +kernel
theorem dX5_readWord_63 : decode cX5_readWord 63 = .ok (.lor, 1) := by decide +kernel
theorem dX5_readWord_64 : decode cX5_readWord 64 = .ok (.lstore_n 1, 1) := by decide +kernel
theorem dX5_readWord_65 : decode cX5_readWord 65 = .ok (.aload_n 0, 1) := by decide +kernel
theorem dX5_readWord_66 : decode cX5_readWord 66 = .ok (.dup, 1) := by decide +kernel
theorem dX5_readWord_67 : decode cX5_readWord 67 = .ok (.getfield 38, 3) := by decide +kernel
theorem dX5_readWord_70 : decode cX5_readWord 70 = .ok (.iconst 1, 1) := by decide +kernel
theorem dX5_readWord_71 : decode cX5_readWord 71 = .ok (.iadd, 1) := by decide +kernel
theorem dX5_readWord_72 : decode cX5_readWord 72 = .ok (.putfield 38, 3) := by decide +kernel
theorem dX5_readWord_75 : decode cX5_readWord 75 = .ok (.goto (-69), 3) := by decide +kernel
theorem dX5_readWord_78 : decode cX5_readWord 78 = .ok (.aload_n 0, 1) := by decide +kernel
theorem dX5_readWord_79 : decode cX5_readWord 79 = .ok (.getfield 38, 3) := by decide +kernel
theorem dX5_readWord_82 : decode cX5_readWord 82 = .ok (.aload_n 0, 1) := by decide +kernel
theorem dX5_readWord_83 : decode cX5_readWord 83 = .ok (.getfield 53, 3) := by decide +kernel
theorem dX5_readWord_86 : decode cX5_readWord 86 = .ok (.isub, 1) := by decide +kernel
theorem dX5_readWord_87 : decode cX5_readWord 87 = .ok (.istore_n 3, 1) := by decide +kernel
theorem dX5_readWord_88 : decode cX5_readWord 88 = .ok (.iload_n 3, 1) := by decide +kernel
theorem dX5_readWord_89 : decode cX5_readWord 89 = .ok (.iconst 1, 1) := by decide +kernel
theorem dX5_readWord_90 : decode cX5_readWord 90 = .ok (.if_icmp .lt 9, 3) := by decide +kernel
theorem dX5_readWord_93 : decode cX5_readWord 93 = .ok (.iload_n 3, 1) := by decide +kernel
theorem dX5_readWord_94 : decode cX5_readWord 94 = .ok (.bipush 8, 2) := by decide +kernel
theorem dX5_readWord_96 : decode cX5_readWord 96 = .ok (.if_icmp .le 9, 3) := by decide +kernel
theorem dX5_readWord_99 : decode cX5_readWord 99 = .ok (.aload_n 0, 1) := by decide +kernel
theorem dX5_readWord_100 : decode cX5_readWord 100 = .ok (.bipush (-2), 2) := by decide +kernel
theorem dX5_readWord_102 : decode cX5_readWord 102 = .ok (.invokevirtual 85, 3) := by decide +kernel
theorem dX5_readWord_105 : decode cX5_readWord 105 = .ok (.lload_n 1, 1) := by decide +kernel
theorem dX5_readWord_106 : decode cX5_readWord 106 = .ok (.lreturn, 1) := by decide +kernel
set_option maxRecDepth 20000 in
theorem ggX5_readFolderName_X5_readWord : GoodIn wsX5_readFolderName wsX5_readWord := goodIn_r _ [7, 8, 9, 10, 11, 12, 13, 14, 6, 15, 16, 17, 18, 19, 20, 21, 29, 30, 31, 32, 33, 34, 35] (by decide +kernel) (by decide +kernel)
set_option maxRecDepth 20000 in
theorem gX5_readFolderName_X5_readWord : GoodIn wsX5_readFolderName (wsV RX5 56 RX5 yX5_readWord wsX5_readWord) := goodIn_app (goodIn_of _ (by decide +kernel)) ggX5_readFolderName_X5_readWord
set_option maxRecDepth 20000 in
theorem ggX5_readFolderName_X3_numberOf : GoodIn wsX5_readFolderName wsX3_numberOf := goodIn_r _ [26, 27, 28, 42, 43, 44, 45] (by decide +kernel) (by decide +kernel)
set_option maxRecDepth 20000 in
theorem gX5_readFolderName_X3_numberOf : GoodIn wsX5_readFolderName (wsV RX5 122 RX3 yX3_numberOf wsX3_numberOf) := goodIn_app (goodIn_of _ (by decide +kernel)) ggX5_readFolderName_X3_numberOf
set_option maxRecDepth 20000 in
theorem ggX5_readFolderName_X5_fail : GoodIn wsX5_readFolderName wsX5_fail := goodIn_r _ [19, 20, 11, 21, 29, 30, 31, 32, 33, 34, 35] (by decide +kernel) (by decide +kernel)
set_option maxRecDepth 20000 in
theorem gX5_readFolderName_X5_fail : GoodIn wsX5_readFolderName (wsV RX5 85 RX5 yX5_fail wsX5_fail) := goodIn_app (goodIn_of _ (by decide +kernel)) ggX5_readFolderName_X5_fail
theorem dX5_readFolderName_0 : decode cX5_readFolderName 0 = .ok (.aload_n 0, 1) := by decide +kernel
theorem dX5_readFolderName_1 : decode cX5_readFolderName 1 = .ok (.getfield 12, 3) := by decide +kernel
theorem dX5_readFolderName_4 : decode cX5_readFolderName 4 = .ok (.getfield 112, 3) := by decide +kernel
theorem dX5_readFolderName_7 : decode cX5_readFolderName 7 = .ok (.aload_n 0, 1) := by decide +kernel
theorem dX5_readFolderName_8 : decode cX5_readFolderName 8 = .ok (.invokevirtual 56, 3) := by decide +kernel
theorem dX5_readFolderName_11 : decode cX5_readFolderName 11 = .ok (.invokevirtual 122, 3) := by decide +kernel
theorem dX5_readFolderName_14 : decode cX5_readFolderName 14 = .ok (.istore_n 1, 1) := by decide +kernel
theorem dX5_readFolderName_15 : decode cX5_readFolderName 15 = .ok (.iload_n 1, 1) := by decide +kernel
theorem dX5_readFolderName_16 : decode cX5_readFolderName 16 = .ok (.iconst (-1), 1) := by decide +kernel
theorem dX5_readFolderName_17 : decode cX5_readFolderName 17 = .ok (.if_icmp .ne 9, 3) := by decide +kernel
theorem dX5_readFolderName_20 : decode cX5_readFolderName 20 = .ok (.aload_n 0, 1) := by decide +kernel
theorem dX5_readFolderName_21 : decode cX5_readFolderName 21 = .ok (.bipush (-3), 2) := by decide +kernel
theorem dX5_readFolderName_23 : decode cX5_readFolderName 23 = .ok (.invokevirtual 85, 3) := by decide +kernel
theorem dX5_readFolderName_26 : decode cX5_readFolderName 26 = .ok (.iload_n 1, 1) := by decide +kernel
theorem dX5_readFolderName_27 : decode cX5_readFolderName 27 = .ok (.ireturn, 1) := by decide +kernel
set_option maxRecDepth 20000 in
theorem ggX5_readNumber_X5_beginToken : GoodIn wsX5_readNumber wsX5_beginToken := goodIn_r _ [14, 1, 2, 3, 9, 21, 22, 23, 24, 25, 26, 27] (by decide +kernel) (by decide +kernel)
set_option maxRecDepth 20000 in
theorem gX5_readNumber_X5_beginToken : GoodIn wsX5_readNumber (wsV RX5 47 RX5 yX5_beginToken wsX5_beginToken) := goodIn_app (goodIn_of _ (by decide +kernel)) ggX5_readNumber_X5_beginToken
set_option maxRecDepth 20000 in
theorem ggX5_readNumber_X5_fail : GoodIn wsX5_readNumber wsX5_fail := goodIn_r _ [18, 19, 9, 20, 21, 22, 23, 24, 25, 26, 27] (by decide +kernel) (by decide +kernel)
set_option maxRecDepth 20000 in
theorem gX5_readNumber_X5_fail : GoodIn wsX5_readNumber (wsV RX5 85 RX5 yX5_fail wsX5_fail) := goodIn_app (goodIn_of _ (by decide +kernel)) ggX5_readNumber_X5_fail
theorem dX5_readNumber_0 : decode cX5_readNumber 0 = .ok (.aload_n 0, 1) := by decide +kernel
theorem dX5_readNumber_1 : decode cX5_readNumber 1 = .ok (.invokevirtual 47, 3) := by decide +kernel
theorem dX5_readNumber_4 : decode cX5_readNumber 4 = .ok (.iconst 0, 1) := by decide +kernel
theorem dX5_readNumber_5 : decode cX5_readNumber 5 = .ok (.istore_n 3, 1) := by decide +kernel
theorem dX5_readNumber_6 : decode cX5_readNumber 6 = .ok (.aload_n 0, 1) := by decide +kernel
theorem dX5_readNumber_7 : decode cX5_readNumber 7 = .ok (.getfield 38, 3) := by decide +kernel
theorem dX5_readNumber_10 : decode cX5_readNumber 10 = .ok (.aload_n 0, 1) := by decide +kernel
theorem dX5_readNumber_11 : decode cX5_readNumber 11 = .ok (.getfield 35, 3) := by decide +kernel
theorem dX5_readNumber_14 : decode cX5_readNumber 14 = .ok (.if_icmp .ge 67, 3) := by decide +kernel
theorem dX5_readNumber_17 : decode cX5_readNumber 17 = .ok (.aload_n 0, 1) := by decide +kernel
theorem dX5_readNumber_18 : decode cX5_readNumber 18 = .ok (.getfield 28, 3) := by decide +kernel
theorem dX5_readNumber_21 : decode cX5_readNumber 21 = .ok (.aload_n 0, 1) := by decide +kernel
theorem dX5_readNumber_22 : decode cX5_readNumber 22 = .ok (.getfield 38, 3) := by decide +kernel
theorem dX5_readNumber_25 : decode cX5_readNumber 25 = .ok (.baload, 1) := by decide +kernel
theorem dX5_readNumber_26 : decode cX5_readNumber 26 = .ok (.bipush 48, 2) := by decide +kernel
theorem dX5_readNumber_28 : decode cX5_readNumber 28 = .ok (.if_icmp .lt 53, 3) := by decide +kernel
theorem dX5_readNumber_31 : decode cX5_readNumber 31 = .ok (.aload_n 0, 1) := by decide +kernel
theorem dX5_readNumber_32 : decode cX5_readNumber 32 = .ok (.getfield 28, 3) := by decide +kernel
theorem dX5_readNumber_35 : decode cX5_readNumber 35 = .ok (.aload_n 0, 1) := by decide +kernel
theorem dX5_readNumber_36 : decode cX5_readNumber 36 = .ok (.getfield 38, 3) := by decide +kernel
theorem dX5_readNumber_39 : decode cX5_readNumber 39 = .ok (.baload, 1) := by decide +kernel
theorem dX5_readNumber_40 : decode cX5_readNumber 40 = .ok (.bipush 57, 2) := by decide +kernel
theorem dX5_readNumber_42 : decode cX5_readNumber 42 = .ok (.if_icmp .gt 39, 3) := by decide +kernel
theorem dX5_readNumber_45 : decode cX5_readNumber 45 = .ok (.iload_n 3, 1) := by decide +kernel
theorem dX5_readNumber_46 : decode cX5_readNumber 46 = .ok (.bipush 10, 2) := by decide +kernel
theorem dX5_readNumber_48 : decode cX5_readNumber 48 = .ok (.imul, 1) := by decide +kernel
theorem dX5_readNumber_49 : decode cX5_readNumber 49 = .ok (.aload_n 0, 1) := by decide +kernel
theorem dX5_readNumber_50 : decode cX5_readNumber 50 = .ok (.getfield 28, 3) := by decide +kernel
theorem dX5_readNumber_53 : decode cX5_readNumber 53 = .ok (.aload_n 0, 1) := by decide +kernel
theorem dX5_readNumber_54 : decode cX5_readNumber 54 = .ok (.getfield 38, 3) := by decide +kernel
theorem dX5_readNumber_57 : decode cX5_readNumber 57 = .ok (.baload, 1) := by decide +kernel
theorem dX5_readNumber_58 : decode cX5_readNumber 58 = .ok (.iadd, 1) := by decide +kernel
theorem dX5_readNumber_59 : decode cX5_readNumber 59 = .ok (.bipush 48, 2) := by decide +kernel
theorem dX5_readNumber_61 : decode cX5_readNumber 61 = .ok (.isub, 1) := by decide +kernel
theorem dX5_readNumber_62 : decode cX5_readNumber 62 = .ok (.ldc 147, 2) := by decide +kernel
theorem dX5_readNumber_64 : decode cX5_readNumber 64 = .ok (.invokestatic 29, 3) := by decide +kernel
theorem dX5_readNumber_67 : decode cX5_readNumber 67 = .ok (.istore_n 3, 1) := by decide +kernel
theorem dX5_readNumber_68 : decode cX5_readNumber 68 = .ok (.aload_n 0, 1) := by decide +kernel
theorem dX5_readNumber_69 : decode cX5_readNumber 69 = .ok (.dup, 1) := by decide +kernel
theorem dX5_readNumber_70 : decode cX5_readNumber 70 = .ok (.getfield 38, 3) := by decide +kernel
theorem dX5_readNumber_73 : decode cX5_readNumber 73 = .ok (.iconst 1, 1) := by decide +kernel
theorem dX5_readNumber_74 : decode cX5_readNumber 74 = .ok (.iadd, 1) := by decide +kernel
theorem dX5_readNumber_75 : decode cX5_readNumber 75 = .ok (.putfield 38, 3) := by decide +kernel
theorem dX5_readNumber_78 : decode cX5_readNumber 78 = .ok (.goto (-72), 3) := by decide +kernel
theorem dX5_readNumber_81 : decode cX5_readNumber 81 = .ok (.aload_n 0, 1) := by decide +kernel
theorem dX5_readNumber_82 : decode cX5_readNumber 82 = .ok (.getfield 38, 3) := by decide +kernel
theorem dX5_readNumber_85 : decode cX5_readNumber 85 = .ok (.aload_n 0, 1) := by decide +kernel
theorem dX5_readNumber_86 : decode cX5_readNumber 86 = .ok (.getfield 53, 3) := by decide +kernel
theorem dX5_readNumber_89 : decode cX5_readNumber 89 = .ok (.if_icmp .ne 9, 3) := by decide +kernel
theorem dX5_readNumber_92 : decode cX5_readNumber 92 = .ok (.aload_n 0, 1) := by decide +kernel
theorem dX5_readNumber_93 : decode cX5_readNumber 93 = .ok (.bipush (-2), 2) := by decide +kernel
theorem dX5_readNumber_95 : decode cX5_readNumber 95 = .ok (.invokevirtual 85, 3) := by decide +kernel
theorem dX5_readNumber_98 : decode cX5_readNumber 98 = .ok (.iload_n 3, 1) := by decide +kernel
theorem dX5_readNumber_99 : decode cX5_readNumber 99 = .ok (.iload_n 1, 1) := by decide +kernel
theorem dX5_readNumber_100 : decode cX5_readNumber 100 = .ok (.if_icmp .lt 8, 3) := by decide +kernel
theorem dX5_readNumber_103 : decode cX5_readNumber 103 = .ok (.iload_n 3, 1) := by decide +kernel
theorem dX5_readNumber_104 : decode cX5_readNumber 104 = .ok (.iload_n 2, 1) := by decide +kernel
theorem dX5_readNumber_105 : decode cX5_readNumber 105 = .ok (.if_icmp .le 9, 3) := by decide +kernel
theorem dX5_readNumber_108 : decode cX5_readNumber 108 = .ok (.aload_n 0, 1) := by decide +kernel
theorem dX5_readNumber_109 : decode cX5_readNumber 109 = .ok (.bipush (-3), 2) := by decide +kernel
theorem dX5_readNumber_111 : decode cX5_readNumber 111 = .ok (.invokevirtual 85, 3) := by decide +kernel
theorem dX5_readNumber_114 : decode cX5_readNumber 114 = .ok (.iload_n 3, 1) := by decide +kernel
theorem dX5_readNumber_115 : decode cX5_readNumber 115 = .ok (.ireturn, 1) := by decide +kernel
set_option maxRecDepth 20000 in
theorem ggX5_readSemicolon_X5_beginToken : GoodIn wsX5_readSemicolon wsX5_beginToken := goodIn_r _ [8, 1, 2, 3, 9, 16, 17, 18, 19, 20, 21, 22] (by decide +kernel) (by decide +kernel)
set_option maxRecDepth 20000 in
theorem gX5_readSemicolon_X5_beginToken : GoodIn wsX5_readSemicolon (wsV RX5 47 RX5 yX5_beginToken wsX5_beginToken) := goodIn_app (goodIn_of _ (by decide +kernel)) ggX5_readSemicolon_X5_beginToken
set_option maxRecDepth 20000 in
theorem ggX5_readSemicolon_X5_fail : GoodIn wsX5_readSemicolon wsX5_fail := goodIn_r _ [13, 14, 9, 15, 16, 17, 18, 19, 20, 21, 22] (by decide +kernel) (by decide +kernel)
set_option maxRecDepth 20000 in
theorem gX5_readSemicolon_X5_fail : GoodIn wsX5_readSemicolon (wsV RX5 85 RX5 yX5_fail wsX5_fail) := goodIn_app (goodIn_of _ (by decide +kernel)) ggX5_readSemicolon_X5_fail
theorem dX5_readSemicolon_0 : decode cX5_readSemicolon 0 = .ok (.aload_n 0, 1) := by decide +kernel
theorem dX5_readSemicolon_1 : decode cX5_readSemicolon 1 = .ok (.invokevirtual 47, 3) := by decide +kernel
theorem dX5_readSemicolon_4 : decode cX5_readSemicolon 4 = .ok (.aload_n 0, 1) := by decide +kernel
theorem dX5_readSemicolon_5 : decode cX5_readSemicolon 5 = .ok (.getfield 38, 3) := by decide +kernel
theorem dX5_readSemicolon_8 : decode cX5_readSemicolon 8 = .ok (.aload_n 0, 1) := by decide +kernel
theorem dX5_readSemicolon_9 : decode cX5_readSemicolon 9 = .ok (.getfield 35, 3) := by decide +kernel
theorem dX5_readSemicolon_12 : decode cX5_readSemicolon 12 = .ok (.if_icmp .ge 30, 3) := by decide +kernel
theorem dX5_readSemicolon_15 : decode cX5_readSemicolon 15 = .ok (.aload_n 0, 1) := by decide +kernel
theorem dX5_readSemicolon_16 : decode cX5_readSemicolon 16 = .ok (.getfield 28, 3) := by decide +kernel
theorem dX5_readSemicolon_19 : decode cX5_readSemicolon 19 = .ok (.aload_n 0, 1) := by decide +kernel
theorem dX5_readSemicolon_20 : decode cX5_readSemicolon 20 = .ok (.getfield 38, 3) := by decide +kernel
theorem dX5_readSemicolon_23 : decode cX5_readSemicolon 23 = .ok (.baload, 1) := by decide +kernel
theorem dX5_readSemicolon_24 : decode cX5_readSemicolon 24 = .ok (.bipush 59, 2) := by decide +kernel
theorem dX5_readSemicolon_26 : decode cX5_readSemicolon 26 = .ok (.if_icmp .ne 16, 3) := by decide +kernel
theorem dX5_readSemicolon_29 : decode cX5_readSemicolon 29 = .ok (.aload_n 0, 1) := by decide +kernel
theorem dX5_readSemicolon_30 : decode cX5_readSemicolon 30 = .ok (.dup, 1) := by decide +kernel
theorem dX5_readSemicolon_31 : decode cX5_readSemicolon 31 = .ok (.getfield 38, 3) := by decide +kernel
theorem dX5_readSemicolon_34 : decode cX5_readSemicolon 34 = .ok (.iconst 1, 1) := by decide +kernel
theorem dX5_readSemicolon_35 : decode cX5_readSemicolon 35 = .ok (.iadd, 1) := by decide +kernel
theorem dX5_readSemicolon_36 : decode cX5_readSemicolon 36 = .ok (.putfield 38, 3) := by decide +kernel
theorem dX5_readSemicolon_39 : decode cX5_readSemicolon 39 = .ok (.goto 9, 3) := by decide +kernel
theorem dX5_readSemicolon_42 : decode cX5_readSemicolon 42 = .ok (.aload_n 0, 1) := by decide +kernel
theorem dX5_readSemicolon_43 : decode cX5_readSemicolon 43 = .ok (.bipush (-2), 2) := by decide +kernel
theorem dX5_readSemicolon_45 : decode cX5_readSemicolon 45 = .ok (.invokevirtual 85, 3) := by decide +kernel
theorem dX5_readSemicolon_48 : decode cX5_readSemicolon 48 = .ok (.return_, 1) := by decide +kernel
