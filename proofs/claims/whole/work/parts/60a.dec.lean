set_option maxRecDepth 20000 in
theorem ggX8_readsFolder_X8_fails : GoodIn wsX8_readsFolder wsX8_fails := goodIn_r _ [8, 3, 9, 10, 58, 59, 60, 61, 62, 63, 64, 65, 66, 67, 68, 69, 70, 71, 72, 73, 74, 75] (by decide +kernel) (by decide +kernel)
set_option maxRecDepth 20000 in
theorem gX8_readsFolder_X8_fails : GoodIn wsX8_readsFolder (wsV RX8 111 RX8 yX8_fails wsX8_fails) := goodIn_app (goodIn_of _ (by decide +kernel)) ggX8_readsFolder_X8_fails
set_option maxRecDepth 20000 in
theorem ggX8_readsFolder_X8_must : GoodIn wsX8_readsFolder wsX8_must := goodIn_r _ [14, 3, 4, 5, 6, 7, 8, 9, 10, 15, 16, 17, 18, 19, 20, 21, 22, 23, 24, 25, 26, 27, 28, 29, 30, 31, 32, 33, 34, 35, 36, 37, 38, 39, 40, 41, 42, 58, 59, 60, 61, 62, 63, 64, 65, 66, 67, 68, 69, 70, 71, 72, 73, 74, 75] (by decide +kernel) (by decide +kernel)
set_option maxRecDepth 20000 in
theorem gX8_readsFolder_X8_must : GoodIn wsX8_readsFolder (wsV RX8 126 RX8 yX8_must wsX8_must) := goodIn_app (goodIn_of _ (by decide +kernel)) ggX8_readsFolder_X8_must
set_option maxRecDepth 20000 in
theorem ggX8_readsFolder_X8_takesName : GoodIn wsX8_readsFolder wsX8_takesName := goodIn_r _ [46, 3, 22, 19, 9, 1, 20, 4, 5, 6, 7, 8, 10, 47, 48, 49, 15, 16, 17, 18, 21, 23, 24, 25, 26, 27, 28, 29, 30, 31, 32, 33, 34, 35, 36, 37, 38, 39, 40, 41, 42, 58, 59, 60, 61, 62, 63, 64, 65, 66, 67, 68, 69, 70, 71, 72, 73, 74, 75] (by decide +kernel) (by decide +kernel)
set_option maxRecDepth 20000 in
theorem gX8_readsFolder_X8_takesName : GoodIn wsX8_readsFolder (wsV RX8 122 RX8 yX8_takesName wsX8_takesName) := goodIn_app (goodIn_of _ (by decide +kernel)) ggX8_readsFolder_X8_takesName
set_option maxRecDepth 20000 in
theorem ggX8_readsFolder_X8_takesFolder : GoodIn wsX8_readsFolder wsX8_takesFolder := goodIn_r _ [53, 1, 43, 44, 45, 7, 46, 3, 22, 19, 9, 20, 4, 5, 6, 8, 10, 47, 48, 49, 15, 16, 17, 18, 21, 23, 24, 25, 26, 27, 28, 29, 30, 31, 32, 33, 34, 35, 36, 37, 38, 39, 40, 41, 42, 58, 59, 60, 61, 62, 63, 64, 65, 66, 67, 68, 69, 70, 71, 72, 73, 74, 75] (by decide +kernel) (by decide +kernel)
set_option maxRecDepth 20000 in
theorem gX8_readsFolder_X8_takesFolder : GoodIn wsX8_readsFolder (wsV RX8 137 RX8 yX8_takesFolder wsX8_takesFolder) := goodIn_app (goodIn_of _ (by decide +kernel)) ggX8_readsFolder_X8_takesFolder
set_option maxRecDepth 20000 in
theorem ggX8_readsFolder_X8_addsFolder : GoodIn wsX8_readsFolder wsX8_addsFolder := goodIn_r _ [56, 57] (by decide +kernel) (by decide +kernel)
set_option maxRecDepth 20000 in
theorem gX8_readsFolder_X8_addsFolder : GoodIn wsX8_readsFolder (va_wsS RX8 140 yX8_addsFolder wsX8_addsFolder) := goodIn_app (goodIn_of _ (by decide +kernel)) ggX8_readsFolder_X8_addsFolder
theorem dX8_readsFolder_0 : decode cX8_readsFolder 0 = .ok (.aload_n 0, 1) := by decide +kernel
theorem dX8_readsFolder_1 : decode cX8_readsFolder 1 = .ok (.getfield 13, 3) := by decide +kernel
theorem dX8_readsFolder_4 : decode cX8_readsFolder 4 = .ok (.iconst 2, 1) := by decide +kernel
theorem dX8_readsFolder_5 : decode cX8_readsFolder 5 = .ok (.laload, 1) := by decide +kernel
theorem dX8_readsFolder_6 : decode cX8_readsFolder 6 = .ok (.ldc2_w 135, 3) := by decide +kernel
theorem dX8_readsFolder_9 : decode cX8_readsFolder 9 = .ok (.lcmp, 1) := by decide +kernel
theorem dX8_readsFolder_10 : decode cX8_readsFolder 10 = .ok (.ifCond .ne 9, 3) := by decide +kernel
theorem dX8_readsFolder_13 : decode cX8_readsFolder 13 = .ok (.aload_n 0, 1) := by decide +kernel
theorem dX8_readsFolder_14 : decode cX8_readsFolder 14 = .ok (.bipush (-4), 2) := by decide +kernel
theorem dX8_readsFolder_16 : decode cX8_readsFolder 16 = .ok (.invokevirtual 111, 3) := by decide +kernel
theorem dX8_readsFolder_19 : decode cX8_readsFolder 19 = .ok (.aload_n 0, 1) := by decide +kernel
theorem dX8_readsFolder_20 : decode cX8_readsFolder 20 = .ok (.iconst 1, 1) := by decide +kernel
theorem dX8_readsFolder_21 : decode cX8_readsFolder 21 = .ok (.invokevirtual 126, 3) := by decide +kernel
theorem dX8_readsFolder_24 : decode cX8_readsFolder 24 = .ok (.aload_n 0, 1) := by decide +kernel
theorem dX8_readsFolder_25 : decode cX8_readsFolder 25 = .ok (.iconst 0, 1) := by decide +kernel
theorem dX8_readsFolder_26 : decode cX8_readsFolder 26 = .ok (.invokevirtual 122, 3) := by decide +kernel
theorem dX8_readsFolder_29 : decode cX8_readsFolder 29 = .ok (.lstore_n 1, 1) := by decide +kernel
theorem dX8_readsFolder_30 : decode cX8_readsFolder 30 = .ok (.aload_n 0, 1) := by decide +kernel
theorem dX8_readsFolder_31 : decode cX8_readsFolder 31 = .ok (.invokevirtual 137, 3) := by decide +kernel
theorem dX8_readsFolder_34 : decode cX8_readsFolder 34 = .ok (.istore_n 3, 1) := by decide +kernel
theorem dX8_readsFolder_35 : decode cX8_readsFolder 35 = .ok (.aload_n 0, 1) := by decide +kernel
theorem dX8_readsFolder_36 : decode cX8_readsFolder 36 = .ok (.getfield 95, 3) := by decide +kernel
theorem dX8_readsFolder_39 : decode cX8_readsFolder 39 = .ok (.ifCond .ne 12, 3) := by decide +kernel
theorem dX8_readsFolder_42 : decode cX8_readsFolder 42 = .ok (.aload_n 0, 1) := by decide +kernel
theorem dX8_readsFolder_43 : decode cX8_readsFolder 43 = .ok (.getfield 13, 3) := by decide +kernel
theorem dX8_readsFolder_46 : decode cX8_readsFolder 46 = .ok (.iload_n 3, 1) := by decide +kernel
theorem dX8_readsFolder_47 : decode cX8_readsFolder 47 = .ok (.lload_n 1, 1) := by decide +kernel
theorem dX8_readsFolder_48 : decode cX8_readsFolder 48 = .ok (.invokestatic 140, 3) := by decide +kernel
theorem dX8_readsFolder_51 : decode cX8_readsFolder 51 = .ok (.return_, 1) := by decide +kernel
set_option maxRecDepth 20000 in
theorem ggX8_readsTag_X8_must : GoodIn wsX8_readsTag wsX8_must := goodIn_r _ [7, 1, 8, 9, 10, 6, 11, 12, 13, 14, 15, 16, 17, 18, 19, 20, 21, 22, 23, 24, 25, 26, 27, 28, 29, 30, 31, 32, 33, 34, 35, 36, 37, 38, 39, 40, 41, 57, 58, 59, 60, 61, 62, 63, 64, 65, 66, 67, 68, 69, 70, 71, 72, 73, 74] (by decide +kernel) (by decide +kernel)
set_option maxRecDepth 20000 in
theorem gX8_readsTag_X8_must : GoodIn wsX8_readsTag (wsV RX8 126 RX8 yX8_must wsX8_must) := goodIn_app (goodIn_of _ (by decide +kernel)) ggX8_readsTag_X8_must
set_option maxRecDepth 20000 in
theorem ggX8_readsTag_X8_takesFolder : GoodIn wsX8_readsTag wsX8_takesFolder := goodIn_r _ [45, 2, 46, 47, 48, 6, 49, 1, 21, 18, 12, 19, 8, 9, 10, 11, 13, 50, 51, 52, 14, 15, 16, 17, 20, 22, 23, 24, 25, 26, 27, 28, 29, 30, 31, 32, 33, 34, 35, 36, 37, 38, 39, 40, 41, 57, 58, 59, 60, 61, 62, 63, 64, 65, 66, 67, 68, 69, 70, 71, 72, 73, 74] (by decide +kernel) (by decide +kernel)
set_option maxRecDepth 20000 in
theorem gX8_readsTag_X8_takesFolder : GoodIn wsX8_readsTag (wsV RX8 137 RX8 yX8_takesFolder wsX8_takesFolder) := goodIn_app (goodIn_of _ (by decide +kernel)) ggX8_readsTag_X8_takesFolder
set_option maxRecDepth 20000 in
theorem ggX8_readsTag_X8_takes : GoodIn wsX8_readsTag wsX8_takes := goodIn_r _ [56, 1, 21, 22, 8, 9, 10, 6, 11, 12, 13, 34, 35, 36, 14, 15, 16, 17, 18, 19, 20, 23, 24, 25, 26, 27, 28, 29, 30, 31, 32, 33, 37, 38, 39, 40, 41, 57, 58, 59, 60, 61, 62, 63, 64, 65, 66, 67, 68, 69, 70, 71, 72, 73, 74] (by decide +kernel) (by decide +kernel)
set_option maxRecDepth 20000 in
theorem gX8_readsTag_X8_takes : GoodIn wsX8_readsTag (wsV RX8 130 RX8 yX8_takes wsX8_takes) := goodIn_app (goodIn_of _ (by decide +kernel)) ggX8_readsTag_X8_takes
theorem dX8_readsTag_0 : decode cX8_readsTag 0 = .ok (.aload_n 0, 1) := by decide +kernel
theorem dX8_readsTag_1 : decode cX8_readsTag 1 = .ok (.iconst 1, 1) := by decide +kernel
theorem dX8_readsTag_2 : decode cX8_readsTag 2 = .ok (.invokevirtual 126, 3) := by decide +kernel
theorem dX8_readsTag_5 : decode cX8_readsTag 5 = .ok (.aload_n 0, 1) := by decide +kernel
theorem dX8_readsTag_6 : decode cX8_readsTag 6 = .ok (.invokevirtual 137, 3) := by decide +kernel
theorem dX8_readsTag_9 : decode cX8_readsTag 9 = .ok (.istore_n 1, 1) := by decide +kernel
theorem dX8_readsTag_10 : decode cX8_readsTag 10 = .ok (.aload_n 0, 1) := by decide +kernel
theorem dX8_readsTag_11 : decode cX8_readsTag 11 = .ok (.iconst 0, 1) := by decide +kernel
theorem dX8_readsTag_12 : decode cX8_readsTag 12 = .ok (.bipush 7, 2) := by decide +kernel
theorem dX8_readsTag_14 : decode cX8_readsTag 14 = .ok (.invokevirtual 130, 3) := by decide +kernel
theorem dX8_readsTag_17 : decode cX8_readsTag 17 = .ok (.istore_n 2, 1) := by decide +kernel
theorem dX8_readsTag_18 : decode cX8_readsTag 18 = .ok (.aload_n 0, 1) := by decide +kernel
theorem dX8_readsTag_19 : decode cX8_readsTag 19 = .ok (.getfield 95, 3) := by decide +kernel
theorem dX8_readsTag_22 : decode cX8_readsTag 22 = .ok (.ifCond .ne 14, 3) := by decide +kernel
theorem dX8_readsTag_25 : decode cX8_readsTag 25 = .ok (.aload_n 0, 1) := by decide +kernel
theorem dX8_readsTag_26 : decode cX8_readsTag 26 = .ok (.getfield 13, 3) := by decide +kernel
theorem dX8_readsTag_29 : decode cX8_readsTag 29 = .ok (.bipush 109, 2) := by decide +kernel
theorem dX8_readsTag_31 : decode cX8_readsTag 31 = .ok (.iload_n 1, 1) := by decide +kernel
theorem dX8_readsTag_32 : decode cX8_readsTag 32 = .ok (.iadd, 1) := by decide +kernel
theorem dX8_readsTag_33 : decode cX8_readsTag 33 = .ok (.iload_n 2, 1) := by decide +kernel
theorem dX8_readsTag_34 : decode cX8_readsTag 34 = .ok (.i2l, 1) := by decide +kernel
theorem dX8_readsTag_35 : decode cX8_readsTag 35 = .ok (.lastore, 1) := by decide +kernel
theorem dX8_readsTag_36 : decode cX8_readsTag 36 = .ok (.return_, 1) := by decide +kernel
set_option maxRecDepth 20000 in
theorem ggX8_readsFile_X8_fails : GoodIn wsX8_readsFile wsX8_fails := goodIn_r _ [8, 3, 9, 10, 61, 62, 63, 64, 65, 66, 67, 68, 69, 70, 71, 72, 73, 74, 75, 76, 77, 78] (by decide +kernel) (by decide +kernel)
set_option maxRecDepth 20000 in
theorem gX8_readsFile_X8_fails : GoodIn wsX8_readsFile (wsV RX8 111 RX8 yX8_fails wsX8_fails) := goodIn_app (goodIn_of _ (by decide +kernel)) ggX8_readsFile_X8_fails
set_option maxRecDepth 20000 in
theorem ggX8_readsFile_X8_must : GoodIn wsX8_readsFile wsX8_must := goodIn_r _ [14, 3, 4, 5, 6, 7, 8, 9, 10, 15, 16, 17, 18, 19, 20, 21, 22, 23, 24, 25, 26, 27, 28, 29, 30, 31, 32, 33, 34, 35, 36, 37, 38, 39, 40, 41, 42, 61, 62, 63, 64, 65, 66, 67, 68, 69, 70, 71, 72, 73, 74, 75, 76, 77, 78] (by decide +kernel) (by decide +kernel)
set_option maxRecDepth 20000 in
theorem gX8_readsFile_X8_must : GoodIn wsX8_readsFile (wsV RX8 126 RX8 yX8_must wsX8_must) := goodIn_app (goodIn_of _ (by decide +kernel)) ggX8_readsFile_X8_must
set_option maxRecDepth 20000 in
theorem ggX8_readsFile_X8_takesFolder : GoodIn wsX8_readsFile wsX8_takesFolder := goodIn_r _ [46, 1, 47, 48, 49, 7, 50, 3, 22, 19, 9, 20, 4, 5, 6, 8, 10, 51, 52, 53, 15, 16, 17, 18, 21, 23, 24, 25, 26, 27, 28, 29, 30, 31, 32, 33, 34, 35, 36, 37, 38, 39, 40, 41, 42, 61, 62, 63, 64, 65, 66, 67, 68, 69, 70, 71, 72, 73, 74, 75, 76, 77, 78] (by decide +kernel) (by decide +kernel)
set_option maxRecDepth 20000 in
theorem gX8_readsFile_X8_takesFolder : GoodIn wsX8_readsFile (wsV RX8 137 RX8 yX8_takesFolder wsX8_takesFolder) := goodIn_app (goodIn_of _ (by decide +kernel)) ggX8_readsFile_X8_takesFolder
set_option maxRecDepth 20000 in
theorem ggX8_readsFile_X8_takes : GoodIn wsX8_readsFile wsX8_takes := goodIn_r _ [57, 3, 22, 23, 4, 5, 6, 7, 8, 9, 10, 35, 36, 37, 15, 16, 17, 18, 19, 20, 21, 24, 25, 26, 27, 28, 29, 30, 31, 32, 33, 34, 38, 39, 40, 41, 42, 61, 62, 63, 64, 65, 66, 67, 68, 69, 70, 71, 72, 73, 74, 75, 76, 77, 78] (by decide +kernel) (by decide +kernel)
set_option maxRecDepth 20000 in
theorem gX8_readsFile_X8_takes : GoodIn wsX8_readsFile (wsV RX8 130 RX8 yX8_takes wsX8_takes) := goodIn_app (goodIn_of _ (by decide +kernel)) ggX8_readsFile_X8_takes
set_option maxRecDepth 20000 in
theorem ggX8_readsFile_X8_addsFile : GoodIn wsX8_readsFile wsX8_addsFile := goodIn_r _ [60] (by decide +kernel) (by decide +kernel)
set_option maxRecDepth 20000 in
theorem gX8_readsFile_X8_addsFile : GoodIn wsX8_readsFile (va_wsS RX8 146 yX8_addsFile wsX8_addsFile) := goodIn_app (goodIn_of _ (by decide +kernel)) ggX8_readsFile_X8_addsFile
theorem dX8_readsFile_0 : decode cX8_readsFile 0 = .ok (.aload_n 0, 1) := by decide +kernel
theorem dX8_readsFile_1 : decode cX8_readsFile 1 = .ok (.getfield 13, 3) := by decide +kernel
theorem dX8_readsFile_4 : decode cX8_readsFile 4 = .ok (.iconst 3, 1) := by decide +kernel
theorem dX8_readsFile_5 : decode cX8_readsFile 5 = .ok (.laload, 1) := by decide +kernel
theorem dX8_readsFile_6 : decode cX8_readsFile 6 = .ok (.ldc2_w 144, 3) := by decide +kernel
theorem dX8_readsFile_9 : decode cX8_readsFile 9 = .ok (.lcmp, 1) := by decide +kernel
theorem dX8_readsFile_10 : decode cX8_readsFile 10 = .ok (.ifCond .ne 9, 3) := by decide +kernel
theorem dX8_readsFile_13 : decode cX8_readsFile 13 = .ok (.aload_n 0, 1) := by decide +kernel
theorem dX8_readsFile_14 : decode cX8_readsFile 14 = .ok (.bipush (-4), 2) := by decide +kernel
theorem dX8_readsFile_16 : decode cX8_readsFile 16 = .ok (.invokevirtual 111, 3) := by decide +kernel
theorem dX8_readsFile_19 : decode cX8_readsFile 19 = .ok (.aload_n 0, 1) := by decide +kernel
theorem dX8_readsFile_20 : decode cX8_readsFile 20 = .ok (.iconst 1, 1) := by decide +kernel
theorem dX8_readsFile_21 : decode cX8_readsFile 21 = .ok (.invokevirtual 126, 3) := by decide +kernel
theorem dX8_readsFile_24 : decode cX8_readsFile 24 = .ok (.aload_n 0, 1) := by decide +kernel
theorem dX8_readsFile_25 : decode cX8_readsFile 25 = .ok (.invokevirtual 137, 3) := by decide +kernel
theorem dX8_readsFile_28 : decode cX8_readsFile 28 = .ok (.istore_n 1, 1) := by decide +kernel
theorem dX8_readsFile_29 : decode cX8_readsFile 29 = .ok (.aload_n 0, 1) := by decide +kernel
theorem dX8_readsFile_30 : decode cX8_readsFile 30 = .ok (.iconst 0, 1) := by decide +kernel
theorem dX8_readsFile_31 : decode cX8_readsFile 31 = .ok (.sipush 9999, 3) := by decide +kernel
theorem dX8_readsFile_34 : decode cX8_readsFile 34 = .ok (.invokevirtual 130, 3) := by decide +kernel
theorem dX8_readsFile_37 : decode cX8_readsFile 37 = .ok (.istore_n 2, 1) := by decide +kernel
theorem dX8_readsFile_38 : decode cX8_readsFile 38 = .ok (.aload_n 0, 1) := by decide +kernel
theorem dX8_readsFile_39 : decode cX8_readsFile 39 = .ok (.getfield 95, 3) := by decide +kernel
theorem dX8_readsFile_42 : decode cX8_readsFile 42 = .ok (.ifCond .ne 12, 3) := by decide +kernel
theorem dX8_readsFile_45 : decode cX8_readsFile 45 = .ok (.aload_n 0, 1) := by decide +kernel
theorem dX8_readsFile_46 : decode cX8_readsFile 46 = .ok (.getfield 13, 3) := by decide +kernel
theorem dX8_readsFile_49 : decode cX8_readsFile 49 = .ok (.iload_n 1, 1) := by decide +kernel
theorem dX8_readsFile_50 : decode cX8_readsFile 50 = .ok (.iload_n 2, 1) := by decide +kernel
theorem dX8_readsFile_51 : decode cX8_readsFile 51 = .ok (.invokestatic 146, 3) := by decide +kernel
theorem dX8_readsFile_54 : decode cX8_readsFile 54 = .ok (.return_, 1) := by decide +kernel
