set_option maxRecDepth 20000 in
theorem ggX8_undo_X8_becomes : GoodIn wsX8_undo wsX8_becomes := goodIn_r _ [8, 9, 10, 11, 12, 13, 14, 15, 16, 17, 18, 19, 20, 21, 22, 23, 24, 25, 26, 27] (by decide +kernel) (by decide +kernel)
set_option maxRecDepth 20000 in
theorem gX8_undo_X8_becomes : GoodIn wsX8_undo (wsV RX8 33 RX8 yX8_becomes wsX8_becomes) := goodIn_app (goodIn_of _ (by decide +kernel)) ggX8_undo_X8_becomes
theorem dX8_undo_0 : decode cX8_undo 0 = .ok (.aload_n 0, 1) := by decide +kernel
theorem dX8_undo_1 : decode cX8_undo 1 = .ok (.aload_n 0, 1) := by decide +kernel
theorem dX8_undo_2 : decode cX8_undo 2 = .ok (.getfield 46, 3) := by decide +kernel
theorem dX8_undo_5 : decode cX8_undo 5 = .ok (.ifCond .ne 7, 3) := by decide +kernel
theorem dX8_undo_8 : decode cX8_undo 8 = .ok (.iconst 1, 1) := by decide +kernel
theorem dX8_undo_9 : decode cX8_undo 9 = .ok (.goto 4, 3) := by decide +kernel
theorem dX8_undo_12 : decode cX8_undo 12 = .ok (.iconst 0, 1) := by decide +kernel
theorem dX8_undo_13 : decode cX8_undo 13 = .ok (.putfield 43, 3) := by decide +kernel
theorem dX8_undo_16 : decode cX8_undo 16 = .ok (.aload_n 0, 1) := by decide +kernel
theorem dX8_undo_17 : decode cX8_undo 17 = .ok (.getfield 43, 3) := by decide +kernel
theorem dX8_undo_20 : decode cX8_undo 20 = .ok (.ifCond .le 5, 3) := by decide +kernel
theorem dX8_undo_23 : decode cX8_undo 23 = .ok (.iconst 0, 1) := by decide +kernel
theorem dX8_undo_24 : decode cX8_undo 24 = .ok (.ireturn, 1) := by decide +kernel
theorem dX8_undo_25 : decode cX8_undo 25 = .ok (.aload_n 0, 1) := by decide +kernel
theorem dX8_undo_26 : decode cX8_undo 26 = .ok (.dup, 1) := by decide +kernel
theorem dX8_undo_27 : decode cX8_undo 27 = .ok (.getfield 46, 3) := by decide +kernel
theorem dX8_undo_30 : decode cX8_undo 30 = .ok (.iconst 1, 1) := by decide +kernel
theorem dX8_undo_31 : decode cX8_undo 31 = .ok (.isub, 1) := by decide +kernel
theorem dX8_undo_32 : decode cX8_undo 32 = .ok (.putfield 46, 3) := by decide +kernel
theorem dX8_undo_35 : decode cX8_undo 35 = .ok (.aload_n 0, 1) := by decide +kernel
theorem dX8_undo_36 : decode cX8_undo 36 = .ok (.aload_n 0, 1) := by decide +kernel
theorem dX8_undo_37 : decode cX8_undo 37 = .ok (.getfield 16, 3) := by decide +kernel
theorem dX8_undo_40 : decode cX8_undo 40 = .ok (.sipush 357, 3) := by decide +kernel
theorem dX8_undo_43 : decode cX8_undo 43 = .ok (.aload_n 0, 1) := by decide +kernel
theorem dX8_undo_44 : decode cX8_undo 44 = .ok (.getfield 46, 3) := by decide +kernel
theorem dX8_undo_47 : decode cX8_undo 47 = .ok (.imul, 1) := by decide +kernel
theorem dX8_undo_48 : decode cX8_undo 48 = .ok (.invokevirtual 33, 3) := by decide +kernel
theorem dX8_undo_51 : decode cX8_undo 51 = .ok (.aload_n 0, 1) := by decide +kernel
theorem dX8_undo_52 : decode cX8_undo 52 = .ok (.getfield 46, 3) := by decide +kernel
theorem dX8_undo_55 : decode cX8_undo 55 = .ok (.ireturn, 1) := by decide +kernel
set_option maxRecDepth 20000 in
theorem ggX8_isName_X8_isIn : GoodIn wsX8_isName wsX8_isIn := goodIn_r _ [6] (by decide +kernel) (by decide +kernel)
set_option maxRecDepth 20000 in
theorem gX8_isName_X8_isIn : GoodIn wsX8_isName (va_wsS RX8 59 yX8_isIn wsX8_isIn) := goodIn_app (goodIn_of _ (by decide +kernel)) ggX8_isName_X8_isIn
theorem dX8_isName_0 : decode cX8_isName 0 = .ok (.lload_n 0, 1) := by decide +kernel
theorem dX8_isName_1 : decode cX8_isName 1 = .ok (.lstore_n 2, 1) := by decide +kernel
theorem dX8_isName_2 : decode cX8_isName 2 = .ok (.iconst 0, 1) := by decide +kernel
theorem dX8_isName_3 : decode cX8_isName 3 = .ok (.istore 4, 2) := by decide +kernel
theorem dX8_isName_5 : decode cX8_isName 5 = .ok (.lload_n 2, 1) := by decide +kernel
theorem dX8_isName_6 : decode cX8_isName 6 = .ok (.ldc2_w 243, 3) := by decide +kernel
theorem dX8_isName_9 : decode cX8_isName 9 = .ok (.land, 1) := by decide +kernel
theorem dX8_isName_10 : decode cX8_isName 10 = .ok (.lconst 1, 1) := by decide +kernel
theorem dX8_isName_11 : decode cX8_isName 11 = .ok (.ldc2_w 245, 3) := by decide +kernel
theorem dX8_isName_14 : decode cX8_isName 14 = .ok (.invokestatic 59, 3) := by decide +kernel
theorem dX8_isName_17 : decode cX8_isName 17 = .ok (.ifCond .eq 20, 3) := by decide +kernel
theorem dX8_isName_20 : decode cX8_isName 20 = .ok (.iload 4, 2) := by decide +kernel
theorem dX8_isName_22 : decode cX8_isName 22 = .ok (.bipush 8, 2) := by decide +kernel
theorem dX8_isName_24 : decode cX8_isName 24 = .ok (.if_icmp .ge 13, 3) := by decide +kernel
theorem dX8_isName_27 : decode cX8_isName 27 = .ok (.lload_n 2, 1) := by decide +kernel
theorem dX8_isName_28 : decode cX8_isName 28 = .ok (.iconst 5, 1) := by decide +kernel
theorem dX8_isName_29 : decode cX8_isName 29 = .ok (.lshr, 1) := by decide +kernel
theorem dX8_isName_30 : decode cX8_isName 30 = .ok (.lstore_n 2, 1) := by decide +kernel
theorem dX8_isName_31 : decode cX8_isName 31 = .ok (.iinc 4 1, 3) := by decide +kernel
theorem dX8_isName_34 : decode cX8_isName 34 = .ok (.goto (-29), 3) := by decide +kernel
theorem dX8_isName_37 : decode cX8_isName 37 = .ok (.lload_n 2, 1) := by decide +kernel
theorem dX8_isName_38 : decode cX8_isName 38 = .ok (.lconst 0, 1) := by decide +kernel
theorem dX8_isName_39 : decode cX8_isName 39 = .ok (.lcmp, 1) := by decide +kernel
theorem dX8_isName_40 : decode cX8_isName 40 = .ok (.ifCond .ne 12, 3) := by decide +kernel
theorem dX8_isName_43 : decode cX8_isName 43 = .ok (.iload 4, 2) := by decide +kernel
theorem dX8_isName_45 : decode cX8_isName 45 = .ok (.ifCond .le 7, 3) := by decide +kernel
theorem dX8_isName_48 : decode cX8_isName 48 = .ok (.iconst 1, 1) := by decide +kernel
theorem dX8_isName_49 : decode cX8_isName 49 = .ok (.goto 4, 3) := by decide +kernel
theorem dX8_isName_52 : decode cX8_isName 52 = .ok (.iconst 0, 1) := by decide +kernel
theorem dX8_isName_53 : decode cX8_isName 53 = .ok (.ireturn, 1) := by decide +kernel
set_option maxRecDepth 20000 in
theorem ggX8_addFolder_X8_isFolder : GoodIn wsX8_addFolder wsX8_isFolder := goodIn_r _ [8, 1, 9, 10, 7, 11, 48, 49, 50, 51, 52, 53, 54, 55, 56, 57, 58, 59, 60, 61, 62, 63, 64, 65] (by decide +kernel) (by decide +kernel)
set_option maxRecDepth 20000 in
theorem gX8_addFolder_X8_isFolder : GoodIn wsX8_addFolder (wsV RX8 220 RX8 yX8_isFolder wsX8_isFolder) := goodIn_app (goodIn_of _ (by decide +kernel)) ggX8_addFolder_X8_isFolder
set_option maxRecDepth 20000 in
theorem ggX8_addFolder_X8_isName : GoodIn wsX8_addFolder wsX8_isName := goodIn_r _ [14, 15, 16, 9, 10, 7, 11] (by decide +kernel) (by decide +kernel)
set_option maxRecDepth 20000 in
theorem gX8_addFolder_X8_isName : GoodIn wsX8_addFolder (va_wsS RX8 247 yX8_isName wsX8_isName) := goodIn_app (goodIn_of _ (by decide +kernel)) ggX8_addFolder_X8_isName
set_option maxRecDepth 20000 in
theorem ggX8_addFolder_X8_named : GoodIn wsX8_addFolder wsX8_named := goodIn_r _ [19] (by decide +kernel) (by decide +kernel)
set_option maxRecDepth 20000 in
theorem gX8_addFolder_X8_named : GoodIn wsX8_addFolder (va_wsS RX8 118 yX8_named wsX8_named) := goodIn_app (goodIn_of _ (by decide +kernel)) ggX8_addFolder_X8_named
set_option maxRecDepth 20000 in
theorem ggX8_addFolder_X8_keeps : GoodIn wsX8_addFolder wsX8_keeps := goodIn_r _ [23, 24, 25, 1, 48, 49, 50, 51, 52, 53, 54, 55, 56, 57, 58, 59, 60, 61, 62, 63, 64, 65] (by decide +kernel) (by decide +kernel)
set_option maxRecDepth 20000 in
theorem gX8_addFolder_X8_keeps : GoodIn wsX8_addFolder (wsV RX8 179 RX8 yX8_keeps wsX8_keeps) := goodIn_app (goodIn_of _ (by decide +kernel)) ggX8_addFolder_X8_keeps
set_option maxRecDepth 20000 in
theorem ggX8_addFolder_X8_addsFolder : GoodIn wsX8_addFolder wsX8_addsFolder := goodIn_r _ [28, 29] (by decide +kernel) (by decide +kernel)
set_option maxRecDepth 20000 in
theorem gX8_addFolder_X8_addsFolder : GoodIn wsX8_addFolder (va_wsS RX8 140 yX8_addsFolder wsX8_addsFolder) := goodIn_app (goodIn_of _ (by decide +kernel)) ggX8_addFolder_X8_addsFolder
set_option maxRecDepth 20000 in
theorem ggX8_addFolder_X8_setsClocks : GoodIn wsX8_addFolder wsX8_setsClocks := goodIn_r _ [33, 29, 1, 34, 35, 36, 7, 37, 38, 39, 40, 41, 42, 43, 44, 45, 46, 47, 48, 49, 50, 51, 52, 53, 54, 55, 56, 57, 58, 59, 60, 61, 62, 63, 64, 65] (by decide +kernel) (by decide +kernel)
set_option maxRecDepth 20000 in
theorem gX8_addFolder_X8_setsClocks : GoodIn wsX8_addFolder (wsV RX8 186 RX8 yX8_setsClocks wsX8_setsClocks) := goodIn_app (goodIn_of _ (by decide +kernel)) ggX8_addFolder_X8_setsClocks
theorem dX8_addFolder_0 : decode cX8_addFolder 0 = .ok (.aload_n 0, 1) := by decide +kernel
theorem dX8_addFolder_1 : decode cX8_addFolder 1 = .ok (.aload_n 0, 1) := by decide +kernel
theorem dX8_addFolder_2 : decode cX8_addFolder 2 = .ok (.iload_n 1, 1) := by decide +kernel
theorem dX8_addFolder_3 : decode cX8_addFolder 3 = .ok (.invokevirtual 220, 3) := by decide +kernel
theorem dX8_addFolder_6 : decode cX8_addFolder 6 = .ok (.ifCond .ne 7, 3) := by decide +kernel
theorem dX8_addFolder_9 : decode cX8_addFolder 9 = .ok (.iconst 1, 1) := by decide +kernel
theorem dX8_addFolder_10 : decode cX8_addFolder 10 = .ok (.goto 44, 3) := by decide +kernel
theorem dX8_addFolder_13 : decode cX8_addFolder 13 = .ok (.lload_n 2, 1) := by decide +kernel
theorem dX8_addFolder_14 : decode cX8_addFolder 14 = .ok (.invokestatic 247, 3) := by decide +kernel
theorem dX8_addFolder_17 : decode cX8_addFolder 17 = .ok (.ifCond .eq 15, 3) := by decide +kernel
theorem dX8_addFolder_20 : decode cX8_addFolder 20 = .ok (.aload_n 0, 1) := by decide +kernel
theorem dX8_addFolder_21 : decode cX8_addFolder 21 = .ok (.getfield 7, 3) := by decide +kernel
theorem dX8_addFolder_24 : decode cX8_addFolder 24 = .ok (.lload_n 2, 1) := by decide +kernel
theorem dX8_addFolder_25 : decode cX8_addFolder 25 = .ok (.invokestatic 118, 3) := by decide +kernel
theorem dX8_addFolder_28 : decode cX8_addFolder 28 = .ok (.iconst (-1), 1) := by decide +kernel
theorem dX8_addFolder_29 : decode cX8_addFolder 29 = .ok (.if_icmp .eq 7, 3) := by decide +kernel
theorem dX8_addFolder_32 : decode cX8_addFolder 32 = .ok (.iconst 2, 1) := by decide +kernel
theorem dX8_addFolder_33 : decode cX8_addFolder 33 = .ok (.goto 21, 3) := by decide +kernel
theorem dX8_addFolder_36 : decode cX8_addFolder 36 = .ok (.aload_n 0, 1) := by decide +kernel
theorem dX8_addFolder_37 : decode cX8_addFolder 37 = .ok (.getfield 7, 3) := by decide +kernel
theorem dX8_addFolder_40 : decode cX8_addFolder 40 = .ok (.iconst 2, 1) := by decide +kernel
theorem dX8_addFolder_41 : decode cX8_addFolder 41 = .ok (.laload, 1) := by decide +kernel
theorem dX8_addFolder_42 : decode cX8_addFolder 42 = .ok (.ldc2_w 135, 3) := by decide +kernel
theorem dX8_addFolder_45 : decode cX8_addFolder 45 = .ok (.lcmp, 1) := by decide +kernel
theorem dX8_addFolder_46 : decode cX8_addFolder 46 = .ok (.ifCond .ne 7, 3) := by decide +kernel
theorem dX8_addFolder_49 : decode cX8_addFolder 49 = .ok (.iconst 3, 1) := by decide +kernel
theorem dX8_addFolder_50 : decode cX8_addFolder 50 = .ok (.goto 4, 3) := by decide +kernel
theorem dX8_addFolder_53 : decode cX8_addFolder 53 = .ok (.iconst 0, 1) := by decide +kernel
theorem dX8_addFolder_54 : decode cX8_addFolder 54 = .ok (.putfield 43, 3) := by decide +kernel
theorem dX8_addFolder_57 : decode cX8_addFolder 57 = .ok (.aload_n 0, 1) := by decide +kernel
theorem dX8_addFolder_58 : decode cX8_addFolder 58 = .ok (.getfield 43, 3) := by decide +kernel
theorem dX8_addFolder_61 : decode cX8_addFolder 61 = .ok (.ifCond .le 5, 3) := by decide +kernel
theorem dX8_addFolder_64 : decode cX8_addFolder 64 = .ok (.iconst 0, 1) := by decide +kernel
theorem dX8_addFolder_65 : decode cX8_addFolder 65 = .ok (.ireturn, 1) := by decide +kernel
theorem dX8_addFolder_66 : decode cX8_addFolder 66 = .ok (.aload_n 0, 1) := by decide +kernel
theorem dX8_addFolder_67 : decode cX8_addFolder 67 = .ok (.invokevirtual 179, 3) := by decide +kernel
theorem dX8_addFolder_70 : decode cX8_addFolder 70 = .ok (.aload_n 0, 1) := by decide +kernel
theorem dX8_addFolder_71 : decode cX8_addFolder 71 = .ok (.getfield 7, 3) := by decide +kernel
theorem dX8_addFolder_74 : decode cX8_addFolder 74 = .ok (.iload_n 1, 1) := by decide +kernel
theorem dX8_addFolder_75 : decode cX8_addFolder 75 = .ok (.lload_n 2, 1) := by decide +kernel
theorem dX8_addFolder_76 : decode cX8_addFolder 76 = .ok (.invokestatic 140, 3) := by decide +kernel
theorem dX8_addFolder_79 : decode cX8_addFolder 79 = .ok (.aload_n 0, 1) := by decide +kernel
theorem dX8_addFolder_80 : decode cX8_addFolder 80 = .ok (.invokevirtual 186, 3) := by decide +kernel
theorem dX8_addFolder_83 : decode cX8_addFolder 83 = .ok (.aload_n 0, 1) := by decide +kernel
theorem dX8_addFolder_84 : decode cX8_addFolder 84 = .ok (.getfield 7, 3) := by decide +kernel
theorem dX8_addFolder_87 : decode cX8_addFolder 87 = .ok (.iconst 2, 1) := by decide +kernel
theorem dX8_addFolder_88 : decode cX8_addFolder 88 = .ok (.laload, 1) := by decide +kernel
theorem dX8_addFolder_89 : decode cX8_addFolder 89 = .ok (.l2i, 1) := by decide +kernel
theorem dX8_addFolder_90 : decode cX8_addFolder 90 = .ok (.iconst 1, 1) := by decide +kernel
theorem dX8_addFolder_91 : decode cX8_addFolder 91 = .ok (.isub, 1) := by decide +kernel
theorem dX8_addFolder_92 : decode cX8_addFolder 92 = .ok (.ireturn, 1) := by decide +kernel
set_option maxRecDepth 20000 in
theorem ggX8_removeFolder_X8_isFolder : GoodIn wsX8_removeFolder wsX8_isFolder := goodIn_r _ [7, 2, 8, 9, 6, 10, 56, 57, 58, 59, 60, 61, 62, 63, 64, 65, 66, 67, 68, 69, 70, 71, 72, 73] (by decide +kernel) (by decide +kernel)
set_option maxRecDepth 20000 in
theorem gX8_removeFolder_X8_isFolder : GoodIn wsX8_removeFolder (wsV RX8 220 RX8 yX8_isFolder wsX8_isFolder) := goodIn_app (goodIn_of _ (by decide +kernel)) ggX8_removeFolder_X8_isFolder
set_option maxRecDepth 20000 in
theorem ggX8_removeFolder_X8_childrenOf : GoodIn wsX8_removeFolder wsX8_childrenOf := goodIn_r _ [14, 2, 15, 16, 17, 6, 18, 56, 57, 58, 59, 60, 61, 62, 63, 64, 65, 66, 67, 68, 69, 70, 71, 72, 73] (by decide +kernel) (by decide +kernel)
set_option maxRecDepth 20000 in
theorem gX8_removeFolder_X8_childrenOf : GoodIn wsX8_removeFolder (wsV RX8 225 RX8 yX8_childrenOf wsX8_childrenOf) := goodIn_app (goodIn_of _ (by decide +kernel)) ggX8_removeFolder_X8_childrenOf
set_option maxRecDepth 20000 in
theorem ggX8_removeFolder_X8_filesIn : GoodIn wsX8_removeFolder wsX8_filesIn := goodIn_r _ [22, 2, 23, 24, 25, 6, 26, 56, 57, 58, 59, 60, 61, 62, 63, 64, 65, 66, 67, 68, 69, 70, 71, 72, 73] (by decide +kernel) (by decide +kernel)
set_option maxRecDepth 20000 in
theorem gX8_removeFolder_X8_filesIn : GoodIn wsX8_removeFolder (wsV RX8 228 RX8 yX8_filesIn wsX8_filesIn) := goodIn_app (goodIn_of _ (by decide +kernel)) ggX8_removeFolder_X8_filesIn
set_option maxRecDepth 20000 in
theorem ggX8_removeFolder_X8_keeps : GoodIn wsX8_removeFolder wsX8_keeps := goodIn_r _ [30, 31, 32, 2, 56, 57, 58, 59, 60, 61, 62, 63, 64, 65, 66, 67, 68, 69, 70, 71, 72, 73] (by decide +kernel) (by decide +kernel)
set_option maxRecDepth 20000 in
theorem gX8_removeFolder_X8_keeps : GoodIn wsX8_removeFolder (wsV RX8 179 RX8 yX8_keeps wsX8_keeps) := goodIn_app (goodIn_of _ (by decide +kernel)) ggX8_removeFolder_X8_keeps
set_option maxRecDepth 20000 in
theorem ggX8_removeFolder_X8_closesUp : GoodIn wsX8_removeFolder wsX8_closesUp := goodIn_r _ [36, 2, 56, 57, 58, 59, 60, 61, 62, 63, 64, 65, 66, 67, 68, 69, 70, 71, 72, 73] (by decide +kernel) (by decide +kernel)
set_option maxRecDepth 20000 in
theorem gX8_removeFolder_X8_closesUp : GoodIn wsX8_removeFolder (wsV RX8 251 RX8 yX8_closesUp wsX8_closesUp) := goodIn_app (goodIn_of _ (by decide +kernel)) ggX8_removeFolder_X8_closesUp
set_option maxRecDepth 20000 in
theorem ggX8_removeFolder_X8_setsClocks : GoodIn wsX8_removeFolder wsX8_setsClocks := goodIn_r _ [40, 41, 2, 42, 43, 44, 6, 45, 46, 47, 48, 49, 50, 51, 52, 53, 54, 55, 56, 57, 58, 59, 60, 61, 62, 63, 64, 65, 66, 67, 68, 69, 70, 71, 72, 73] (by decide +kernel) (by decide +kernel)
set_option maxRecDepth 20000 in
theorem gX8_removeFolder_X8_setsClocks : GoodIn wsX8_removeFolder (wsV RX8 186 RX8 yX8_setsClocks wsX8_setsClocks) := goodIn_app (goodIn_of _ (by decide +kernel)) ggX8_removeFolder_X8_setsClocks
theorem dX8_removeFolder_0 : decode cX8_removeFolder 0 = .ok (.aload_n 0, 1) := by decide +kernel
theorem dX8_removeFolder_1 : decode cX8_removeFolder 1 = .ok (.aload_n 0, 1) := by decide +kernel
theorem dX8_removeFolder_2 : decode cX8_removeFolder 2 = .ok (.iload_n 1, 1) := by decide +kernel
theorem dX8_removeFolder_3 : decode cX8_removeFolder 3 = .ok (.invokevirtual 220, 3) := by decide +kernel
theorem dX8_removeFolder_6 : decode cX8_removeFolder 6 = .ok (.ifCond .ne 7, 3) := by decide +kernel
theorem dX8_removeFolder_9 : decode cX8_removeFolder 9 = .ok (.iconst 1, 1) := by decide +kernel
theorem dX8_removeFolder_10 : decode cX8_removeFolder 10 = .ok (.goto 28, 3) := by decide +kernel
theorem dX8_removeFolder_13 : decode cX8_removeFolder 13 = .ok (.iload_n 1, 1) := by decide +kernel
theorem dX8_removeFolder_14 : decode cX8_removeFolder 14 = .ok (.ifCond .eq 19, 3) := by decide +kernel
theorem dX8_removeFolder_17 : decode cX8_removeFolder 17 = .ok (.aload_n 0, 1) := by decide +kernel
theorem dX8_removeFolder_18 : decode cX8_removeFolder 18 = .ok (.iload_n 1, 1) := by decide +kernel
theorem dX8_removeFolder_19 : decode cX8_removeFolder 19 = .ok (.invokevirtual 225, 3) := by decide +kernel
theorem dX8_removeFolder_22 : decode cX8_removeFolder 22 = .ok (.ifCond .gt 11, 3) := by decide +kernel
theorem dX8_removeFolder_25 : decode cX8_removeFolder 25 = .ok (.aload_n 0, 1) := by decide +kernel
theorem dX8_removeFolder_26 : decode cX8_removeFolder 26 = .ok (.iload_n 1, 1) := by decide +kernel
theorem dX8_removeFolder_27 : decode cX8_removeFolder 27 = .ok (.invokevirtual 228, 3) := by decide +kernel
theorem dX8_removeFolder_30 : decode cX8_removeFolder 30 = .ok (.ifCond .le 7, 3) := by decide +kernel
theorem dX8_removeFolder_33 : decode cX8_removeFolder 33 = .ok (.iconst 2, 1) := by decide +kernel
theorem dX8_removeFolder_34 : decode cX8_removeFolder 34 = .ok (.goto 4, 3) := by decide +kernel
theorem dX8_removeFolder_37 : decode cX8_removeFolder 37 = .ok (.iconst 0, 1) := by decide +kernel
theorem dX8_removeFolder_38 : decode cX8_removeFolder 38 = .ok (.putfield 43, 3) := by decide +kernel
theorem dX8_removeFolder_41 : decode cX8_removeFolder 41 = .ok (.aload_n 0, 1) := by decide +kernel
theorem dX8_removeFolder_42 : decode cX8_removeFolder 42 = .ok (.getfield 43, 3) := by decide +kernel
theorem dX8_removeFolder_45 : decode cX8_removeFolder 45 = .ok (.ifCond .le 5, 3) := by decide +kernel
theorem dX8_removeFolder_48 : decode cX8_removeFolder 48 = .ok (.iconst 0, 1) := by decide +kernel
theorem dX8_removeFolder_49 : decode cX8_removeFolder 49 = .ok (.ireturn, 1) := by decide +kernel
theorem dX8_removeFolder_50 : decode cX8_removeFolder 50 = .ok (.aload_n 0, 1) := by decide +kernel
theorem dX8_removeFolder_51 : decode cX8_removeFolder 51 = .ok (.invokevirtual 179, 3) := by decide +kernel
theorem dX8_removeFolder_54 : decode cX8_removeFolder 54 = .ok (.aload_n 0, 1) := by decide +kernel
theorem dX8_removeFolder_55 : decode cX8_removeFolder 55 = .ok (.getfield 7, 3) := by decide +kernel
theorem dX8_removeFolder_58 : decode cX8_removeFolder 58 = .ok (.iconst 2, 1) := by decide +kernel
theorem dX8_removeFolder_59 : decode cX8_removeFolder 59 = .ok (.dup2, 1) := by decide +kernel
theorem dX8_removeFolder_60 : decode cX8_removeFolder 60 = .ok (.laload, 1) := by decide +kernel
theorem dX8_removeFolder_61 : decode cX8_removeFolder 61 = .ok (.lconst 1, 1) := by decide +kernel
theorem dX8_removeFolder_62 : decode cX8_removeFolder 62 = .ok (.lsub, 1) := by decide +kernel
theorem dX8_removeFolder_63 : decode cX8_removeFolder 63 = .ok (.lastore, 1) := by decide +kernel
theorem dX8_removeFolder_64 : decode cX8_removeFolder 64 = .ok (.aload_n 0, 1) := by decide +kernel
theorem dX8_removeFolder_65 : decode cX8_removeFolder 65 = .ok (.getfield 7, 3) := by decide +kernel
theorem dX8_removeFolder_68 : decode cX8_removeFolder 68 = .ok (.iconst 2, 1) := by decide +kernel
theorem dX8_removeFolder_69 : decode cX8_removeFolder 69 = .ok (.laload, 1) := by decide +kernel
theorem dX8_removeFolder_70 : decode cX8_removeFolder 70 = .ok (.l2i, 1) := by decide +kernel
theorem dX8_removeFolder_71 : decode cX8_removeFolder 71 = .ok (.istore_n 2, 1) := by decide +kernel
theorem dX8_removeFolder_72 : decode cX8_removeFolder 72 = .ok (.aload_n 0, 1) := by decide +kernel
theorem dX8_removeFolder_73 : decode cX8_removeFolder 73 = .ok (.bipush 69, 2) := by decide +kernel
theorem dX8_removeFolder_75 : decode cX8_removeFolder 75 = .ok (.iload_n 1, 1) := by decide +kernel
theorem dX8_removeFolder_76 : decode cX8_removeFolder 76 = .ok (.iload_n 2, 1) := by decide +kernel
theorem dX8_removeFolder_77 : decode cX8_removeFolder 77 = .ok (.invokevirtual 251, 3) := by decide +kernel
theorem dX8_removeFolder_80 : decode cX8_removeFolder 80 = .ok (.aload_n 0, 1) := by decide +kernel
theorem dX8_removeFolder_81 : decode cX8_removeFolder 81 = .ok (.bipush 109, 2) := by decide +kernel
theorem dX8_removeFolder_83 : decode cX8_removeFolder 83 = .ok (.iload_n 1, 1) := by decide +kernel
theorem dX8_removeFolder_84 : decode cX8_removeFolder 84 = .ok (.iload_n 2, 1) := by decide +kernel
theorem dX8_removeFolder_85 : decode cX8_removeFolder 85 = .ok (.invokevirtual 251, 3) := by decide +kernel
theorem dX8_removeFolder_88 : decode cX8_removeFolder 88 = .ok (.aload_n 0, 1) := by decide +kernel
theorem dX8_removeFolder_89 : decode cX8_removeFolder 89 = .ok (.sipush 149, 3) := by decide +kernel
theorem dX8_removeFolder_92 : decode cX8_removeFolder 92 = .ok (.iload_n 1, 1) := by decide +kernel
theorem dX8_removeFolder_93 : decode cX8_removeFolder 93 = .ok (.iload_n 2, 1) := by decide +kernel
theorem dX8_removeFolder_94 : decode cX8_removeFolder 94 = .ok (.invokevirtual 251, 3) := by decide +kernel
theorem dX8_removeFolder_97 : decode cX8_removeFolder 97 = .ok (.iconst 0, 1) := by decide +kernel
theorem dX8_removeFolder_98 : decode cX8_removeFolder 98 = .ok (.istore_n 3, 1) := by decide +kernel
theorem dX8_removeFolder_99 : decode cX8_removeFolder 99 = .ok (.iload_n 3, 1) := by decide +kernel
theorem dX8_removeFolder_100 : decode cX8_removeFolder 100 = .ok (.iload_n 2, 1) := by decide +kernel
theorem dX8_removeFolder_101 : decode cX8_removeFolder 101 = .ok (.if_icmp .ge 41, 3) := by decide +kernel
theorem dX8_removeFolder_104 : decode cX8_removeFolder 104 = .ok (.aload_n 0, 1) := by decide +kernel
theorem dX8_removeFolder_105 : decode cX8_removeFolder 105 = .ok (.getfield 7, 3) := by decide +kernel
theorem dX8_removeFolder_108 : decode cX8_removeFolder 108 = .ok (.bipush 69, 2) := by decide +kernel
theorem dX8_removeFolder_110 : decode cX8_removeFolder 110 = .ok (.iload_n 3, 1) := by decide +kernel
theorem dX8_removeFolder_111 : decode cX8_removeFolder 111 = .ok (.iadd, 1) := by decide +kernel
theorem dX8_removeFolder_112 : decode cX8_removeFolder 112 = .ok (.dup2, 1) := by decide +kernel
theorem dX8_removeFolder_113 : decode cX8_removeFolder 113 = .ok (.laload, 1) := by decide +kernel
theorem dX8_removeFolder_114 : decode cX8_removeFolder 114 = .ok (.aload_n 0, 1) := by decide +kernel
theorem dX8_removeFolder_115 : decode cX8_removeFolder 115 = .ok (.getfield 7, 3) := by decide +kernel
theorem dX8_removeFolder_118 : decode cX8_removeFolder 118 = .ok (.bipush 69, 2) := by decide +kernel
theorem dX8_removeFolder_120 : decode cX8_removeFolder 120 = .ok (.iload_n 3, 1) := by decide +kernel
theorem dX8_removeFolder_121 : decode cX8_removeFolder 121 = .ok (.iadd, 1) := by decide +kernel
theorem dX8_removeFolder_122 : decode cX8_removeFolder 122 = .ok (.laload, 1) := by decide +kernel
theorem dX8_removeFolder_123 : decode cX8_removeFolder 123 = .ok (.iload_n 1, 1) := by decide +kernel
theorem dX8_removeFolder_124 : decode cX8_removeFolder 124 = .ok (.i2l, 1) := by decide +kernel
theorem dX8_removeFolder_125 : decode cX8_removeFolder 125 = .ok (.lcmp, 1) := by decide +kernel
theorem dX8_removeFolder_126 : decode cX8_removeFolder 126 = .ok (.ifCond .le 7, 3) := by decide +kernel
theorem dX8_removeFolder_129 : decode cX8_removeFolder 129 = .ok (.lconst 1, 1) := by decide +kernel
theorem dX8_removeFolder_130 : decode cX8_removeFolder 130 = .ok (.goto 4, 3) := by decide +kernel
theorem dX8_removeFolder_133 : decode cX8_removeFolder 133 = .ok (.lconst 0, 1) := by decide +kernel
theorem dX8_removeFolder_134 : decode cX8_removeFolder 134 = .ok (.lsub, 1) := by decide +kernel
theorem dX8_removeFolder_135 : decode cX8_removeFolder 135 = .ok (.lastore, 1) := by decide +kernel
theorem dX8_removeFolder_136 : decode cX8_removeFolder 136 = .ok (.iinc 3 1, 3) := by decide +kernel
theorem dX8_removeFolder_139 : decode cX8_removeFolder 139 = .ok (.goto (-40), 3) := by decide +kernel
theorem dX8_removeFolder_142 : decode cX8_removeFolder 142 = .ok (.iconst 0, 1) := by decide +kernel
theorem dX8_removeFolder_143 : decode cX8_removeFolder 143 = .ok (.istore_n 3, 1) := by decide +kernel
theorem dX8_removeFolder_144 : decode cX8_removeFolder 144 = .ok (.iload_n 3, 1) := by decide +kernel
theorem dX8_removeFolder_145 : decode cX8_removeFolder 145 = .ok (.i2l, 1) := by decide +kernel
theorem dX8_removeFolder_146 : decode cX8_removeFolder 146 = .ok (.aload_n 0, 1) := by decide +kernel
theorem dX8_removeFolder_147 : decode cX8_removeFolder 147 = .ok (.getfield 7, 3) := by decide +kernel
theorem dX8_removeFolder_150 : decode cX8_removeFolder 150 = .ok (.iconst 3, 1) := by decide +kernel
theorem dX8_removeFolder_151 : decode cX8_removeFolder 151 = .ok (.laload, 1) := by decide +kernel
theorem dX8_removeFolder_152 : decode cX8_removeFolder 152 = .ok (.lcmp, 1) := by decide +kernel
theorem dX8_removeFolder_153 : decode cX8_removeFolder 153 = .ok (.ifCond .ge 43, 3) := by decide +kernel
theorem dX8_removeFolder_156 : decode cX8_removeFolder 156 = .ok (.aload_n 0, 1) := by decide +kernel
theorem dX8_removeFolder_157 : decode cX8_removeFolder 157 = .ok (.getfield 7, 3) := by decide +kernel
theorem dX8_removeFolder_160 : decode cX8_removeFolder 160 = .ok (.sipush 189, 3) := by decide +kernel
theorem dX8_removeFolder_163 : decode cX8_removeFolder 163 = .ok (.iload_n 3, 1) := by decide +kernel
theorem dX8_removeFolder_164 : decode cX8_removeFolder 164 = .ok (.iadd, 1) := by decide +kernel
theorem dX8_removeFolder_165 : decode cX8_removeFolder 165 = .ok (.dup2, 1) := by decide +kernel
theorem dX8_removeFolder_166 : decode cX8_removeFolder 166 = .ok (.laload, 1) := by decide +kernel
theorem dX8_removeFolder_167 : decode cX8_removeFolder 167 = .ok (.aload_n 0, 1) := by decide +kernel
theorem dX8_removeFolder_168 : decode cX8_removeFolder 168 = .ok (.getfield 7, 3) := by decide +kernel
theorem dX8_removeFolder_171 : decode cX8_removeFolder 171 = .ok (.sipush 189, 3) := by decide +kernel
theorem dX8_removeFolder_174 : decode cX8_removeFolder 174 = .ok (.iload_n 3, 1) := by decide +kernel
theorem dX8_removeFolder_175 : decode cX8_removeFolder 175 = .ok (.iadd, 1) := by decide +kernel
theorem dX8_removeFolder_176 : decode cX8_removeFolder 176 = .ok (.laload, 1) := by decide +kernel
theorem dX8_removeFolder_177 : decode cX8_removeFolder 177 = .ok (.iload_n 1, 1) := by decide +kernel
theorem dX8_removeFolder_178 : decode cX8_removeFolder 178 = .ok (.i2l, 1) := by decide +kernel
theorem dX8_removeFolder_179 : decode cX8_removeFolder 179 = .ok (.lcmp, 1) := by decide +kernel
theorem dX8_removeFolder_180 : decode cX8_removeFolder 180 = .ok (.ifCond .le 7, 3) := by decide +kernel
theorem dX8_removeFolder_183 : decode cX8_removeFolder 183 = .ok (.lconst 1, 1) := by decide +kernel
theorem dX8_removeFolder_184 : decode cX8_removeFolder 184 = .ok (.goto 4, 3) := by decide +kernel
theorem dX8_removeFolder_187 : decode cX8_removeFolder 187 = .ok (.lconst 0, 1) := by decide +kernel
theorem dX8_removeFolder_188 : decode cX8_removeFolder 188 = .ok (.lsub, 1) := by decide +kernel
theorem dX8_removeFolder_189 : decode cX8_removeFolder 189 = .ok (.lastore, 1) := by decide +kernel
theorem dX8_removeFolder_190 : decode cX8_removeFolder 190 = .ok (.iinc 3 1, 3) := by decide +kernel
theorem dX8_removeFolder_193 : decode cX8_removeFolder 193 = .ok (.goto (-49), 3) := by decide +kernel
theorem dX8_removeFolder_196 : decode cX8_removeFolder 196 = .ok (.aload_n 0, 1) := by decide +kernel
theorem dX8_removeFolder_197 : decode cX8_removeFolder 197 = .ok (.invokevirtual 186, 3) := by decide +kernel
theorem dX8_removeFolder_200 : decode cX8_removeFolder 200 = .ok (.iload_n 2, 1) := by decide +kernel
theorem dX8_removeFolder_201 : decode cX8_removeFolder 201 = .ok (.ireturn, 1) := by decide +kernel
set_option maxRecDepth 20000 in
theorem ggX8_tag_X8_isFolder : GoodIn wsX8_tag wsX8_isFolder := goodIn_r _ [9, 4, 10, 11, 8, 12, 101, 102, 103, 104, 105, 106, 107, 108, 109, 110, 111, 112, 113, 114, 115, 116, 117, 118] (by decide +kernel) (by decide +kernel)
set_option maxRecDepth 20000 in
theorem gX8_tag_X8_isFolder : GoodIn wsX8_tag (wsV RX8 220 RX8 yX8_isFolder wsX8_isFolder) := goodIn_app (goodIn_of _ (by decide +kernel)) ggX8_tag_X8_isFolder
set_option maxRecDepth 20000 in
theorem ggX8_tag_X8_isIn : GoodIn wsX8_tag wsX8_isIn := goodIn_r _ [12] (by decide +kernel) (by decide +kernel)
set_option maxRecDepth 20000 in
theorem gX8_tag_X8_isIn : GoodIn wsX8_tag (va_wsS RX8 59 yX8_isIn wsX8_isIn) := goodIn_app (goodIn_of _ (by decide +kernel)) ggX8_tag_X8_isIn
set_option maxRecDepth 20000 in
theorem ggX8_tag_X8_reasonToTag : GoodIn wsX8_tag wsX8_reasonToTag := goodIn_r _ [16, 17, 18, 19, 8, 20, 21, 22, 23, 24, 4, 25, 26, 27, 28, 29, 30, 31, 32, 33, 34, 35, 36, 37, 38, 39, 40, 41, 42, 43, 44, 45, 46, 47, 48, 49, 50, 51, 52, 53, 54, 55, 56, 1, 57, 58, 59, 60, 61, 62, 63, 64, 65, 66, 67, 68, 69, 70, 71, 72, 73, 74, 75, 76, 77, 78, 79, 80, 81, 82, 101, 102, 103, 104, 105, 106, 107, 108, 109, 110, 111, 112, 113, 114, 115, 116, 117, 118] (by decide +kernel) (by decide +kernel)
set_option maxRecDepth 20000 in
theorem gX8_tag_X8_reasonToTag : GoodIn wsX8_tag (wsV RX8 298 RX8 yX8_reasonToTag wsX8_reasonToTag) := goodIn_app (goodIn_of _ (by decide +kernel)) ggX8_tag_X8_reasonToTag
set_option maxRecDepth 20000 in
theorem ggX8_tag_X8_keeps : GoodIn wsX8_tag wsX8_keeps := goodIn_r _ [86, 87, 88, 4, 101, 102, 103, 104, 105, 106, 107, 108, 109, 110, 111, 112, 113, 114, 115, 116, 117, 118] (by decide +kernel) (by decide +kernel)
set_option maxRecDepth 20000 in
theorem gX8_tag_X8_keeps : GoodIn wsX8_tag (wsV RX8 179 RX8 yX8_keeps wsX8_keeps) := goodIn_app (goodIn_of _ (by decide +kernel)) ggX8_tag_X8_keeps
set_option maxRecDepth 20000 in
theorem ggX8_tag_X8_projectOf : GoodIn wsX8_tag wsX8_projectOf := goodIn_r _ [20, 21, 22, 23, 8, 24, 4, 25, 26, 27, 28, 101, 102, 103, 104, 105, 106, 107, 108, 109, 110, 111, 112, 113, 114, 115, 116, 117, 118] (by decide +kernel) (by decide +kernel)
set_option maxRecDepth 20000 in
theorem gX8_tag_X8_projectOf : GoodIn wsX8_tag (wsV RX8 207 RX8 yX8_projectOf wsX8_projectOf) := goodIn_app (goodIn_of _ (by decide +kernel)) ggX8_tag_X8_projectOf
set_option maxRecDepth 20000 in
theorem ggX8_tag_X8_projectWith : GoodIn wsX8_tag wsX8_projectWith := goodIn_r _ [32, 25, 26, 27, 8, 28, 4, 17, 18, 19, 20, 21, 22, 23, 24, 101, 102, 103, 104, 105, 106, 107, 108, 109, 110, 111, 112, 113, 114, 115, 116, 117, 118] (by decide +kernel) (by decide +kernel)
set_option maxRecDepth 20000 in
theorem gX8_tag_X8_projectWith : GoodIn wsX8_tag (wsV RX8 291 RX8 yX8_projectWith wsX8_projectWith) := goodIn_app (goodIn_of _ (by decide +kernel)) ggX8_tag_X8_projectWith
set_option maxRecDepth 20000 in
theorem ggX8_tag_X8_passes : GoodIn wsX8_tag wsX8_passes := goodIn_r _ [92, 37, 38, 39, 8, 40, 4, 41, 42, 43, 44, 45, 46, 47, 48, 21, 22, 23, 24, 25, 26, 27, 28, 93, 94, 95, 96, 61, 62, 63, 71, 72, 73, 74, 68, 69, 70, 101, 102, 103, 104, 105, 106, 107, 108, 109, 110, 111, 112, 113, 114, 115, 116, 117, 118] (by decide +kernel) (by decide +kernel)
set_option maxRecDepth 20000 in
theorem gX8_tag_X8_passes : GoodIn wsX8_tag (wsV RX8 301 RX8 yX8_passes wsX8_passes) := goodIn_app (goodIn_of _ (by decide +kernel)) ggX8_tag_X8_passes
set_option maxRecDepth 20000 in
theorem ggX8_tag_X8_setsClocks : GoodIn wsX8_tag wsX8_setsClocks := goodIn_r _ [100, 1, 4, 57, 58, 59, 8, 60, 61, 62, 63, 64, 65, 66, 67, 68, 69, 70, 101, 102, 103, 104, 105, 106, 107, 108, 109, 110, 111, 112, 113, 114, 115, 116, 117, 118] (by decide +kernel) (by decide +kernel)
set_option maxRecDepth 20000 in
theorem gX8_tag_X8_setsClocks : GoodIn wsX8_tag (wsV RX8 186 RX8 yX8_setsClocks wsX8_setsClocks) := goodIn_app (goodIn_of _ (by decide +kernel)) ggX8_tag_X8_setsClocks
theorem dX8_tag_0 : decode cX8_tag 0 = .ok (.aload_n 0, 1) := by decide +kernel
theorem dX8_tag_1 : decode cX8_tag 1 = .ok (.aload_n 0, 1) := by decide +kernel
theorem dX8_tag_2 : decode cX8_tag 2 = .ok (.iload_n 1, 1) := by decide +kernel
theorem dX8_tag_3 : decode cX8_tag 3 = .ok (.invokevirtual 220, 3) := by decide +kernel
theorem dX8_tag_6 : decode cX8_tag 6 = .ok (.ifCond .ne 7, 3) := by decide +kernel
theorem dX8_tag_9 : decode cX8_tag 9 = .ok (.iconst 1, 1) := by decide +kernel
theorem dX8_tag_10 : decode cX8_tag 10 = .ok (.goto 35, 3) := by decide +kernel
theorem dX8_tag_13 : decode cX8_tag 13 = .ok (.iload_n 2, 1) := by decide +kernel
theorem dX8_tag_14 : decode cX8_tag 14 = .ok (.i2l, 1) := by decide +kernel
theorem dX8_tag_15 : decode cX8_tag 15 = .ok (.ldc2_w 37, 3) := by decide +kernel
theorem dX8_tag_18 : decode cX8_tag 18 = .ok (.ldc2_w 189, 3) := by decide +kernel
theorem dX8_tag_21 : decode cX8_tag 21 = .ok (.invokestatic 59, 3) := by decide +kernel
theorem dX8_tag_24 : decode cX8_tag 24 = .ok (.ifCond .ne 7, 3) := by decide +kernel
theorem dX8_tag_27 : decode cX8_tag 27 = .ok (.iconst 2, 1) := by decide +kernel
theorem dX8_tag_28 : decode cX8_tag 28 = .ok (.goto 17, 3) := by decide +kernel
theorem dX8_tag_31 : decode cX8_tag 31 = .ok (.aload_n 0, 1) := by decide +kernel
theorem dX8_tag_32 : decode cX8_tag 32 = .ok (.iload_n 1, 1) := by decide +kernel
theorem dX8_tag_33 : decode cX8_tag 33 = .ok (.iload_n 2, 1) := by decide +kernel
theorem dX8_tag_34 : decode cX8_tag 34 = .ok (.invokevirtual 298, 3) := by decide +kernel
theorem dX8_tag_37 : decode cX8_tag 37 = .ok (.ifCond .le 7, 3) := by decide +kernel
theorem dX8_tag_40 : decode cX8_tag 40 = .ok (.iconst 3, 1) := by decide +kernel
theorem dX8_tag_41 : decode cX8_tag 41 = .ok (.goto 4, 3) := by decide +kernel
theorem dX8_tag_44 : decode cX8_tag 44 = .ok (.iconst 0, 1) := by decide +kernel
theorem dX8_tag_45 : decode cX8_tag 45 = .ok (.putfield 43, 3) := by decide +kernel
theorem dX8_tag_48 : decode cX8_tag 48 = .ok (.aload_n 0, 1) := by decide +kernel
theorem dX8_tag_49 : decode cX8_tag 49 = .ok (.getfield 43, 3) := by decide +kernel
theorem dX8_tag_52 : decode cX8_tag 52 = .ok (.ifCond .le 5, 3) := by decide +kernel
theorem dX8_tag_55 : decode cX8_tag 55 = .ok (.iconst 0, 1) := by decide +kernel
theorem dX8_tag_56 : decode cX8_tag 56 = .ok (.ireturn, 1) := by decide +kernel
theorem dX8_tag_57 : decode cX8_tag 57 = .ok (.aload_n 0, 1) := by decide +kernel
theorem dX8_tag_58 : decode cX8_tag 58 = .ok (.invokevirtual 179, 3) := by decide +kernel
theorem dX8_tag_61 : decode cX8_tag 61 = .ok (.aload_n 0, 1) := by decide +kernel
theorem dX8_tag_62 : decode cX8_tag 62 = .ok (.iload_n 1, 1) := by decide +kernel
theorem dX8_tag_63 : decode cX8_tag 63 = .ok (.aload_n 0, 1) := by decide +kernel
theorem dX8_tag_64 : decode cX8_tag 64 = .ok (.iload_n 1, 1) := by decide +kernel
theorem dX8_tag_65 : decode cX8_tag 65 = .ok (.invokevirtual 207, 3) := by decide +kernel
theorem dX8_tag_68 : decode cX8_tag 68 = .ok (.aload_n 0, 1) := by decide +kernel
theorem dX8_tag_69 : decode cX8_tag 69 = .ok (.iload_n 1, 1) := by decide +kernel
theorem dX8_tag_70 : decode cX8_tag 70 = .ok (.iload_n 2, 1) := by decide +kernel
theorem dX8_tag_71 : decode cX8_tag 71 = .ok (.invokevirtual 291, 3) := by decide +kernel
theorem dX8_tag_74 : decode cX8_tag 74 = .ok (.invokevirtual 301, 3) := by decide +kernel
theorem dX8_tag_77 : decode cX8_tag 77 = .ok (.istore_n 3, 1) := by decide +kernel
theorem dX8_tag_78 : decode cX8_tag 78 = .ok (.aload_n 0, 1) := by decide +kernel
theorem dX8_tag_79 : decode cX8_tag 79 = .ok (.getfield 7, 3) := by decide +kernel
theorem dX8_tag_82 : decode cX8_tag 82 = .ok (.bipush 109, 2) := by decide +kernel
theorem dX8_tag_84 : decode cX8_tag 84 = .ok (.iload_n 1, 1) := by decide +kernel
theorem dX8_tag_85 : decode cX8_tag 85 = .ok (.iadd, 1) := by decide +kernel
theorem dX8_tag_86 : decode cX8_tag 86 = .ok (.iload_n 2, 1) := by decide +kernel
theorem dX8_tag_87 : decode cX8_tag 87 = .ok (.i2l, 1) := by decide +kernel
theorem dX8_tag_88 : decode cX8_tag 88 = .ok (.lastore, 1) := by decide +kernel
theorem dX8_tag_89 : decode cX8_tag 89 = .ok (.aload_n 0, 1) := by decide +kernel
theorem dX8_tag_90 : decode cX8_tag 90 = .ok (.invokevirtual 186, 3) := by decide +kernel
theorem dX8_tag_93 : decode cX8_tag 93 = .ok (.iload_n 3, 1) := by decide +kernel
theorem dX8_tag_94 : decode cX8_tag 94 = .ok (.ireturn, 1) := by decide +kernel
set_option maxRecDepth 20000 in
theorem ggX8_moveFolder_X8_isFolder : GoodIn wsX8_moveFolder wsX8_isFolder := goodIn_r _ [7, 2, 8, 9, 6, 10, 104, 105, 106, 107, 108, 109, 110, 111, 112, 113, 114, 115, 116, 117, 118, 119, 120, 121] (by decide +kernel) (by decide +kernel)
set_option maxRecDepth 20000 in
theorem gX8_moveFolder_X8_isFolder : GoodIn wsX8_moveFolder (wsV RX8 220 RX8 yX8_isFolder wsX8_isFolder) := goodIn_app (goodIn_of _ (by decide +kernel)) ggX8_moveFolder_X8_isFolder
set_option maxRecDepth 20000 in
theorem ggX8_moveFolder_X8_reasonToMove : GoodIn wsX8_moveFolder wsX8_reasonToMove := goodIn_r _ [14, 15, 16, 17, 6, 18, 19, 20, 21, 22, 2, 23, 24, 25, 26, 27, 28, 29, 30, 31, 32, 33, 34, 35, 36, 37, 38, 39, 40, 41, 42, 43, 44, 45, 46, 47, 48, 49, 50, 51, 52, 53, 54, 55, 56, 57, 58, 59, 60, 61, 62, 63, 64, 65, 66, 67, 68, 69, 70, 71, 72, 73, 74, 75, 76, 77, 78, 79, 80, 81, 82, 83, 84, 85, 104, 105, 106, 107, 108, 109, 110, 111, 112, 113, 114, 115, 116, 117, 118, 119, 120, 121] (by decide +kernel) (by decide +kernel)
set_option maxRecDepth 20000 in
theorem gX8_moveFolder_X8_reasonToMove : GoodIn wsX8_moveFolder (wsV RX8 307 RX8 yX8_reasonToMove wsX8_reasonToMove) := goodIn_app (goodIn_of _ (by decide +kernel)) ggX8_moveFolder_X8_reasonToMove
set_option maxRecDepth 20000 in
theorem ggX8_moveFolder_X8_keeps : GoodIn wsX8_moveFolder wsX8_keeps := goodIn_r _ [89, 90, 91, 2, 104, 105, 106, 107, 108, 109, 110, 111, 112, 113, 114, 115, 116, 117, 118, 119, 120, 121] (by decide +kernel) (by decide +kernel)
set_option maxRecDepth 20000 in
theorem gX8_moveFolder_X8_keeps : GoodIn wsX8_moveFolder (wsV RX8 179 RX8 yX8_keeps wsX8_keeps) := goodIn_app (goodIn_of _ (by decide +kernel)) ggX8_moveFolder_X8_keeps
set_option maxRecDepth 20000 in
theorem ggX8_moveFolder_X8_projectOf : GoodIn wsX8_moveFolder wsX8_projectOf := goodIn_r _ [26, 27, 28, 29, 6, 30, 2, 19, 20, 21, 22, 104, 105, 106, 107, 108, 109, 110, 111, 112, 113, 114, 115, 116, 117, 118, 119, 120, 121] (by decide +kernel) (by decide +kernel)
set_option maxRecDepth 20000 in
theorem gX8_moveFolder_X8_projectOf : GoodIn wsX8_moveFolder (wsV RX8 207 RX8 yX8_projectOf wsX8_projectOf) := goodIn_app (goodIn_of _ (by decide +kernel)) ggX8_moveFolder_X8_projectOf
set_option maxRecDepth 20000 in
theorem ggX8_moveFolder_X8_projectUnder : GoodIn wsX8_moveFolder wsX8_projectUnder := goodIn_r _ [34, 27, 28, 29, 6, 30, 2, 23, 24, 25, 26, 19, 20, 21, 22, 104, 105, 106, 107, 108, 109, 110, 111, 112, 113, 114, 115, 116, 117, 118, 119, 120, 121] (by decide +kernel) (by decide +kernel)
set_option maxRecDepth 20000 in
theorem gX8_moveFolder_X8_projectUnder : GoodIn wsX8_moveFolder (wsV RX8 304 RX8 yX8_projectUnder wsX8_projectUnder) := goodIn_app (goodIn_of _ (by decide +kernel)) ggX8_moveFolder_X8_projectUnder
set_option maxRecDepth 20000 in
theorem ggX8_moveFolder_X8_passes : GoodIn wsX8_moveFolder wsX8_passes := goodIn_r _ [95, 39, 40, 41, 6, 42, 2, 43, 44, 45, 46, 47, 48, 49, 50, 27, 28, 29, 30, 19, 20, 21, 22, 96, 97, 98, 99, 64, 65, 66, 74, 75, 76, 77, 71, 72, 73, 104, 105, 106, 107, 108, 109, 110, 111, 112, 113, 114, 115, 116, 117, 118, 119, 120, 121] (by decide +kernel) (by decide +kernel)
set_option maxRecDepth 20000 in
theorem gX8_moveFolder_X8_passes : GoodIn wsX8_moveFolder (wsV RX8 301 RX8 yX8_passes wsX8_passes) := goodIn_app (goodIn_of _ (by decide +kernel)) ggX8_moveFolder_X8_passes
set_option maxRecDepth 20000 in
theorem ggX8_moveFolder_X8_setsClocks : GoodIn wsX8_moveFolder wsX8_setsClocks := goodIn_r _ [103, 59, 2, 60, 61, 62, 6, 63, 64, 65, 66, 67, 68, 69, 70, 71, 72, 73, 104, 105, 106, 107, 108, 109, 110, 111, 112, 113, 114, 115, 116, 117, 118, 119, 120, 121] (by decide +kernel) (by decide +kernel)
set_option maxRecDepth 20000 in
theorem gX8_moveFolder_X8_setsClocks : GoodIn wsX8_moveFolder (wsV RX8 186 RX8 yX8_setsClocks wsX8_setsClocks) := goodIn_app (goodIn_of _ (by decide +kernel)) ggX8_moveFolder_X8_setsClocks
theorem dX8_moveFolder_0 : decode cX8_moveFolder 0 = .ok (.aload_n 0, 1) := by decide +kernel
theorem dX8_moveFolder_1 : decode cX8_moveFolder 1 = .ok (.aload_n 0, 1) := by decide +kernel
theorem dX8_moveFolder_2 : decode cX8_moveFolder 2 = .ok (.iload_n 1, 1) := by decide +kernel
theorem dX8_moveFolder_3 : decode cX8_moveFolder 3 = .ok (.invokevirtual 220, 3) := by decide +kernel
theorem dX8_moveFolder_6 : decode cX8_moveFolder 6 = .ok (.ifCond .eq 11, 3) := by decide +kernel
theorem dX8_moveFolder_9 : decode cX8_moveFolder 9 = .ok (.aload_n 0, 1) := by decide +kernel
theorem dX8_moveFolder_10 : decode cX8_moveFolder 10 = .ok (.iload_n 2, 1) := by decide +kernel
theorem dX8_moveFolder_11 : decode cX8_moveFolder 11 = .ok (.invokevirtual 220, 3) := by decide +kernel
theorem dX8_moveFolder_14 : decode cX8_moveFolder 14 = .ok (.ifCond .ne 7, 3) := by decide +kernel
theorem dX8_moveFolder_17 : decode cX8_moveFolder 17 = .ok (.iconst 1, 1) := by decide +kernel
theorem dX8_moveFolder_18 : decode cX8_moveFolder 18 = .ok (.goto 17, 3) := by decide +kernel
theorem dX8_moveFolder_21 : decode cX8_moveFolder 21 = .ok (.aload_n 0, 1) := by decide +kernel
theorem dX8_moveFolder_22 : decode cX8_moveFolder 22 = .ok (.iload_n 1, 1) := by decide +kernel
theorem dX8_moveFolder_23 : decode cX8_moveFolder 23 = .ok (.iload_n 2, 1) := by decide +kernel
theorem dX8_moveFolder_24 : decode cX8_moveFolder 24 = .ok (.invokevirtual 307, 3) := by decide +kernel
theorem dX8_moveFolder_27 : decode cX8_moveFolder 27 = .ok (.ifCond .le 7, 3) := by decide +kernel
theorem dX8_moveFolder_30 : decode cX8_moveFolder 30 = .ok (.iconst 2, 1) := by decide +kernel
theorem dX8_moveFolder_31 : decode cX8_moveFolder 31 = .ok (.goto 4, 3) := by decide +kernel
theorem dX8_moveFolder_34 : decode cX8_moveFolder 34 = .ok (.iconst 0, 1) := by decide +kernel
theorem dX8_moveFolder_35 : decode cX8_moveFolder 35 = .ok (.putfield 43, 3) := by decide +kernel
theorem dX8_moveFolder_38 : decode cX8_moveFolder 38 = .ok (.aload_n 0, 1) := by decide +kernel
theorem dX8_moveFolder_39 : decode cX8_moveFolder 39 = .ok (.getfield 43, 3) := by decide +kernel
theorem dX8_moveFolder_42 : decode cX8_moveFolder 42 = .ok (.ifCond .le 5, 3) := by decide +kernel
theorem dX8_moveFolder_45 : decode cX8_moveFolder 45 = .ok (.iconst 0, 1) := by decide +kernel
theorem dX8_moveFolder_46 : decode cX8_moveFolder 46 = .ok (.ireturn, 1) := by decide +kernel
theorem dX8_moveFolder_47 : decode cX8_moveFolder 47 = .ok (.aload_n 0, 1) := by decide +kernel
theorem dX8_moveFolder_48 : decode cX8_moveFolder 48 = .ok (.invokevirtual 179, 3) := by decide +kernel
theorem dX8_moveFolder_51 : decode cX8_moveFolder 51 = .ok (.aload_n 0, 1) := by decide +kernel
theorem dX8_moveFolder_52 : decode cX8_moveFolder 52 = .ok (.iload_n 1, 1) := by decide +kernel
theorem dX8_moveFolder_53 : decode cX8_moveFolder 53 = .ok (.aload_n 0, 1) := by decide +kernel
theorem dX8_moveFolder_54 : decode cX8_moveFolder 54 = .ok (.iload_n 1, 1) := by decide +kernel
theorem dX8_moveFolder_55 : decode cX8_moveFolder 55 = .ok (.invokevirtual 207, 3) := by decide +kernel
theorem dX8_moveFolder_58 : decode cX8_moveFolder 58 = .ok (.aload_n 0, 1) := by decide +kernel
theorem dX8_moveFolder_59 : decode cX8_moveFolder 59 = .ok (.iload_n 1, 1) := by decide +kernel
theorem dX8_moveFolder_60 : decode cX8_moveFolder 60 = .ok (.iload_n 2, 1) := by decide +kernel
theorem dX8_moveFolder_61 : decode cX8_moveFolder 61 = .ok (.invokevirtual 304, 3) := by decide +kernel
theorem dX8_moveFolder_64 : decode cX8_moveFolder 64 = .ok (.invokevirtual 301, 3) := by decide +kernel
theorem dX8_moveFolder_67 : decode cX8_moveFolder 67 = .ok (.istore_n 3, 1) := by decide +kernel
theorem dX8_moveFolder_68 : decode cX8_moveFolder 68 = .ok (.aload_n 0, 1) := by decide +kernel
theorem dX8_moveFolder_69 : decode cX8_moveFolder 69 = .ok (.getfield 7, 3) := by decide +kernel
theorem dX8_moveFolder_72 : decode cX8_moveFolder 72 = .ok (.bipush 69, 2) := by decide +kernel
theorem dX8_moveFolder_74 : decode cX8_moveFolder 74 = .ok (.iload_n 1, 1) := by decide +kernel
theorem dX8_moveFolder_75 : decode cX8_moveFolder 75 = .ok (.iadd, 1) := by decide +kernel
theorem dX8_moveFolder_76 : decode cX8_moveFolder 76 = .ok (.iload_n 2, 1) := by decide +kernel
theorem dX8_moveFolder_77 : decode cX8_moveFolder 77 = .ok (.i2l, 1) := by decide +kernel
theorem dX8_moveFolder_78 : decode cX8_moveFolder 78 = .ok (.lastore, 1) := by decide +kernel
theorem dX8_moveFolder_79 : decode cX8_moveFolder 79 = .ok (.aload_n 0, 1) := by decide +kernel
theorem dX8_moveFolder_80 : decode cX8_moveFolder 80 = .ok (.invokevirtual 186, 3) := by decide +kernel
theorem dX8_moveFolder_83 : decode cX8_moveFolder 83 = .ok (.iload_n 3, 1) := by decide +kernel
theorem dX8_moveFolder_84 : decode cX8_moveFolder 84 = .ok (.ireturn, 1) := by decide +kernel
set_option maxRecDepth 20000 in
theorem ggX8_write_X8_isFolder : GoodIn wsX8_write wsX8_isFolder := goodIn_r _ [9, 2, 10, 11, 8, 12, 77, 78, 79, 80, 81, 82, 83, 84, 85, 86, 87, 88, 89, 90, 91, 92, 93, 94] (by decide +kernel) (by decide +kernel)
set_option maxRecDepth 20000 in
theorem gX8_write_X8_isFolder : GoodIn wsX8_write (wsV RX8 220 RX8 yX8_isFolder wsX8_isFolder) := goodIn_app (goodIn_of _ (by decide +kernel)) ggX8_write_X8_isFolder
set_option maxRecDepth 20000 in
theorem ggX8_write_X8_isIn : GoodIn wsX8_write wsX8_isIn := goodIn_r _ [12] (by decide +kernel) (by decide +kernel)
set_option maxRecDepth 20000 in
theorem gX8_write_X8_isIn : GoodIn wsX8_write (va_wsS RX8 59 yX8_isIn wsX8_isIn) := goodIn_app (goodIn_of _ (by decide +kernel)) ggX8_write_X8_isIn
set_option maxRecDepth 20000 in
theorem ggX8_write_X8_projectOf : GoodIn wsX8_write wsX8_projectOf := goodIn_r _ [16, 17, 18, 19, 8, 20, 2, 21, 22, 23, 24, 77, 78, 79, 80, 81, 82, 83, 84, 85, 86, 87, 88, 89, 90, 91, 92, 93, 94] (by decide +kernel) (by decide +kernel)
set_option maxRecDepth 20000 in
theorem gX8_write_X8_projectOf : GoodIn wsX8_write (wsV RX8 207 RX8 yX8_projectOf wsX8_projectOf) := goodIn_app (goodIn_of _ (by decide +kernel)) ggX8_write_X8_projectOf
set_option maxRecDepth 20000 in
theorem ggX8_write_X8_reasonFor : GoodIn wsX8_write wsX8_reasonFor := goodIn_r _ [28, 29, 30, 31, 8, 32, 33, 34, 35, 36, 37, 2, 38, 39, 40, 41, 42, 43, 44, 45, 46, 47, 48, 49, 50, 51, 52, 53, 54, 55, 56, 57, 58, 59, 77, 78, 79, 80, 81, 82, 83, 84, 85, 86, 87, 88, 89, 90, 91, 92, 93, 94] (by decide +kernel) (by decide +kernel)
set_option maxRecDepth 20000 in
theorem gX8_write_X8_reasonFor : GoodIn wsX8_write (wsV RX8 283 RX8 yX8_reasonFor wsX8_reasonFor) := goodIn_app (goodIn_of _ (by decide +kernel)) ggX8_write_X8_reasonFor
set_option maxRecDepth 20000 in
theorem ggX8_write_X8_keeps : GoodIn wsX8_write wsX8_keeps := goodIn_r _ [63, 64, 65, 2, 77, 78, 79, 80, 81, 82, 83, 84, 85, 86, 87, 88, 89, 90, 91, 92, 93, 94] (by decide +kernel) (by decide +kernel)
set_option maxRecDepth 20000 in
theorem gX8_write_X8_keeps : GoodIn wsX8_write (wsV RX8 179 RX8 yX8_keeps wsX8_keeps) := goodIn_app (goodIn_of _ (by decide +kernel)) ggX8_write_X8_keeps
set_option maxRecDepth 20000 in
theorem ggX8_write_X8_addsFile : GoodIn wsX8_write wsX8_addsFile := goodIn_r _ [68] (by decide +kernel) (by decide +kernel)
set_option maxRecDepth 20000 in
theorem gX8_write_X8_addsFile : GoodIn wsX8_write (va_wsS RX8 146 yX8_addsFile wsX8_addsFile) := goodIn_app (goodIn_of _ (by decide +kernel)) ggX8_write_X8_addsFile
set_option maxRecDepth 20000 in
theorem ggX8_write_X8_counts : GoodIn wsX8_write wsX8_counts := goodIn_r _ [72, 2, 38, 39, 8, 40, 48, 49, 50, 51, 45, 46, 47, 77, 78, 79, 80, 81, 82, 83, 84, 85, 86, 87, 88, 89, 90, 91, 92, 93, 94] (by decide +kernel) (by decide +kernel)
set_option maxRecDepth 20000 in
theorem gX8_write_X8_counts : GoodIn wsX8_write (wsV RX8 287 RX8 yX8_counts wsX8_counts) := goodIn_app (goodIn_of _ (by decide +kernel)) ggX8_write_X8_counts
set_option maxRecDepth 20000 in
theorem ggX8_write_X8_setsClocks : GoodIn wsX8_write wsX8_setsClocks := goodIn_r _ [76, 33, 2, 34, 35, 36, 8, 37, 38, 39, 40, 41, 42, 43, 44, 45, 46, 47, 77, 78, 79, 80, 81, 82, 83, 84, 85, 86, 87, 88, 89, 90, 91, 92, 93, 94] (by decide +kernel) (by decide +kernel)
set_option maxRecDepth 20000 in
theorem gX8_write_X8_setsClocks : GoodIn wsX8_write (wsV RX8 186 RX8 yX8_setsClocks wsX8_setsClocks) := goodIn_app (goodIn_of _ (by decide +kernel)) ggX8_write_X8_setsClocks
theorem dX8_write_0 : decode cX8_write 0 = .ok (.aload_n 0, 1) := by decide +kernel
theorem dX8_write_1 : decode cX8_write 1 = .ok (.iload_n 1, 1) := by decide +kernel
theorem dX8_write_2 : decode cX8_write 2 = .ok (.invokevirtual 220, 3) := by decide +kernel
theorem dX8_write_5 : decode cX8_write 5 = .ok (.ifCond .eq 19, 3) := by decide +kernel
theorem dX8_write_8 : decode cX8_write 8 = .ok (.iload_n 2, 1) := by decide +kernel
theorem dX8_write_9 : decode cX8_write 9 = .ok (.i2l, 1) := by decide +kernel
theorem dX8_write_10 : decode cX8_write 10 = .ok (.lconst 0, 1) := by decide +kernel
theorem dX8_write_11 : decode cX8_write 11 = .ok (.ldc2_w 315, 3) := by decide +kernel
theorem dX8_write_14 : decode cX8_write 14 = .ok (.invokestatic 59, 3) := by decide +kernel
theorem dX8_write_17 : decode cX8_write 17 = .ok (.ifCond .eq 7, 3) := by decide +kernel
theorem dX8_write_20 : decode cX8_write 20 = .ok (.iconst 1, 1) := by decide +kernel
theorem dX8_write_21 : decode cX8_write 21 = .ok (.goto 4, 3) := by decide +kernel
theorem dX8_write_24 : decode cX8_write 24 = .ok (.iconst 0, 1) := by decide +kernel
theorem dX8_write_25 : decode cX8_write 25 = .ok (.istore_n 3, 1) := by decide +kernel
theorem dX8_write_26 : decode cX8_write 26 = .ok (.aload_n 0, 1) := by decide +kernel
theorem dX8_write_27 : decode cX8_write 27 = .ok (.aload_n 0, 1) := by decide +kernel
theorem dX8_write_28 : decode cX8_write 28 = .ok (.iload_n 1, 1) := by decide +kernel
theorem dX8_write_29 : decode cX8_write 29 = .ok (.invokevirtual 220, 3) := by decide +kernel
theorem dX8_write_32 : decode cX8_write 32 = .ok (.ifCond .ne 7, 3) := by decide +kernel
theorem dX8_write_35 : decode cX8_write 35 = .ok (.iconst 1, 1) := by decide +kernel
theorem dX8_write_36 : decode cX8_write 36 = .ok (.goto 44, 3) := by decide +kernel
theorem dX8_write_39 : decode cX8_write 39 = .ok (.iload_n 3, 1) := by decide +kernel
theorem dX8_write_40 : decode cX8_write 40 = .ok (.ifCond .ne 7, 3) := by decide +kernel
theorem dX8_write_43 : decode cX8_write 43 = .ok (.iconst 2, 1) := by decide +kernel
theorem dX8_write_44 : decode cX8_write 44 = .ok (.goto 36, 3) := by decide +kernel
theorem dX8_write_47 : decode cX8_write 47 = .ok (.aload_n 0, 1) := by decide +kernel
theorem dX8_write_48 : decode cX8_write 48 = .ok (.getfield 7, 3) := by decide +kernel
theorem dX8_write_51 : decode cX8_write 51 = .ok (.iconst 3, 1) := by decide +kernel
theorem dX8_write_52 : decode cX8_write 52 = .ok (.laload, 1) := by decide +kernel
theorem dX8_write_53 : decode cX8_write 53 = .ok (.ldc2_w 144, 3) := by decide +kernel
theorem dX8_write_56 : decode cX8_write 56 = .ok (.lcmp, 1) := by decide +kernel
theorem dX8_write_57 : decode cX8_write 57 = .ok (.ifCond .eq 18, 3) := by decide +kernel
theorem dX8_write_60 : decode cX8_write 60 = .ok (.aload_n 0, 1) := by decide +kernel
theorem dX8_write_61 : decode cX8_write 61 = .ok (.aload_n 0, 1) := by decide +kernel
theorem dX8_write_62 : decode cX8_write 62 = .ok (.iload_n 1, 1) := by decide +kernel
theorem dX8_write_63 : decode cX8_write 63 = .ok (.invokevirtual 207, 3) := by decide +kernel
theorem dX8_write_66 : decode cX8_write 66 = .ok (.iload_n 2, 1) := by decide +kernel
theorem dX8_write_67 : decode cX8_write 67 = .ok (.i2l, 1) := by decide +kernel
theorem dX8_write_68 : decode cX8_write 68 = .ok (.lconst 1, 1) := by decide +kernel
theorem dX8_write_69 : decode cX8_write 69 = .ok (.invokevirtual 283, 3) := by decide +kernel
theorem dX8_write_72 : decode cX8_write 72 = .ok (.ifCond .le 7, 3) := by decide +kernel
theorem dX8_write_75 : decode cX8_write 75 = .ok (.iconst 3, 1) := by decide +kernel
theorem dX8_write_76 : decode cX8_write 76 = .ok (.goto 4, 3) := by decide +kernel
theorem dX8_write_79 : decode cX8_write 79 = .ok (.iconst 0, 1) := by decide +kernel
theorem dX8_write_80 : decode cX8_write 80 = .ok (.putfield 43, 3) := by decide +kernel
theorem dX8_write_83 : decode cX8_write 83 = .ok (.aload_n 0, 1) := by decide +kernel
theorem dX8_write_84 : decode cX8_write 84 = .ok (.getfield 43, 3) := by decide +kernel
theorem dX8_write_87 : decode cX8_write 87 = .ok (.ifCond .le 5, 3) := by decide +kernel
theorem dX8_write_90 : decode cX8_write 90 = .ok (.iconst 0, 1) := by decide +kernel
theorem dX8_write_91 : decode cX8_write 91 = .ok (.ireturn, 1) := by decide +kernel
theorem dX8_write_92 : decode cX8_write 92 = .ok (.aload_n 0, 1) := by decide +kernel
theorem dX8_write_93 : decode cX8_write 93 = .ok (.invokevirtual 179, 3) := by decide +kernel
theorem dX8_write_96 : decode cX8_write 96 = .ok (.aload_n 0, 1) := by decide +kernel
theorem dX8_write_97 : decode cX8_write 97 = .ok (.getfield 7, 3) := by decide +kernel
theorem dX8_write_100 : decode cX8_write 100 = .ok (.iload_n 1, 1) := by decide +kernel
theorem dX8_write_101 : decode cX8_write 101 = .ok (.iload_n 2, 1) := by decide +kernel
theorem dX8_write_102 : decode cX8_write 102 = .ok (.invokestatic 146, 3) := by decide +kernel
theorem dX8_write_105 : decode cX8_write 105 = .ok (.aload_n 0, 1) := by decide +kernel
theorem dX8_write_106 : decode cX8_write 106 = .ok (.aload_n 0, 1) := by decide +kernel
theorem dX8_write_107 : decode cX8_write 107 = .ok (.iload_n 1, 1) := by decide +kernel
theorem dX8_write_108 : decode cX8_write 108 = .ok (.invokevirtual 207, 3) := by decide +kernel
theorem dX8_write_111 : decode cX8_write 111 = .ok (.iload_n 2, 1) := by decide +kernel
theorem dX8_write_112 : decode cX8_write 112 = .ok (.i2l, 1) := by decide +kernel
theorem dX8_write_113 : decode cX8_write 113 = .ok (.lconst 1, 1) := by decide +kernel
theorem dX8_write_114 : decode cX8_write 114 = .ok (.invokevirtual 287, 3) := by decide +kernel
theorem dX8_write_117 : decode cX8_write 117 = .ok (.aload_n 0, 1) := by decide +kernel
theorem dX8_write_118 : decode cX8_write 118 = .ok (.invokevirtual 186, 3) := by decide +kernel
theorem dX8_write_121 : decode cX8_write 121 = .ok (.aload_n 0, 1) := by decide +kernel
theorem dX8_write_122 : decode cX8_write 122 = .ok (.getfield 7, 3) := by decide +kernel
theorem dX8_write_125 : decode cX8_write 125 = .ok (.iconst 3, 1) := by decide +kernel
theorem dX8_write_126 : decode cX8_write 126 = .ok (.laload, 1) := by decide +kernel
theorem dX8_write_127 : decode cX8_write 127 = .ok (.l2i, 1) := by decide +kernel
theorem dX8_write_128 : decode cX8_write 128 = .ok (.iconst 1, 1) := by decide +kernel
theorem dX8_write_129 : decode cX8_write 129 = .ok (.isub, 1) := by decide +kernel
theorem dX8_write_130 : decode cX8_write 130 = .ok (.ireturn, 1) := by decide +kernel
set_option maxRecDepth 20000 in
theorem ggX8_resize_X8_isFile : GoodIn wsX8_resize wsX8_isFile := goodIn_r _ [8, 2, 9, 10, 7, 11, 77, 78, 79, 80, 81, 82, 83, 84, 85, 86, 87, 88, 89, 90, 91, 92, 93, 94] (by decide +kernel) (by decide +kernel)
set_option maxRecDepth 20000 in
theorem gX8_resize_X8_isFile : GoodIn wsX8_resize (wsV RX8 310 RX8 yX8_isFile wsX8_isFile) := goodIn_app (goodIn_of _ (by decide +kernel)) ggX8_resize_X8_isFile
set_option maxRecDepth 20000 in
theorem ggX8_resize_X8_isIn : GoodIn wsX8_resize wsX8_isIn := goodIn_r _ [11] (by decide +kernel) (by decide +kernel)
set_option maxRecDepth 20000 in
theorem gX8_resize_X8_isIn : GoodIn wsX8_resize (va_wsS RX8 59 yX8_isIn wsX8_isIn) := goodIn_app (goodIn_of _ (by decide +kernel)) ggX8_resize_X8_isIn
set_option maxRecDepth 20000 in
theorem ggX8_resize_X8_folderOf : GoodIn wsX8_resize wsX8_folderOf := goodIn_r _ [15, 2, 77, 78, 79, 80, 81, 82, 83, 84, 85, 86, 87, 88, 89, 90, 91, 92, 93, 94] (by decide +kernel) (by decide +kernel)
set_option maxRecDepth 20000 in
theorem gX8_resize_X8_folderOf : GoodIn wsX8_resize (wsV RX8 197 RX8 yX8_folderOf wsX8_folderOf) := goodIn_app (goodIn_of _ (by decide +kernel)) ggX8_resize_X8_folderOf
set_option maxRecDepth 20000 in
theorem ggX8_resize_X8_projectOf : GoodIn wsX8_resize wsX8_projectOf := goodIn_r _ [19, 20, 21, 22, 7, 23, 2, 24, 25, 26, 27, 77, 78, 79, 80, 81, 82, 83, 84, 85, 86, 87, 88, 89, 90, 91, 92, 93, 94] (by decide +kernel) (by decide +kernel)
set_option maxRecDepth 20000 in
theorem gX8_resize_X8_projectOf : GoodIn wsX8_resize (wsV RX8 207 RX8 yX8_projectOf wsX8_projectOf) := goodIn_app (goodIn_of _ (by decide +kernel)) ggX8_resize_X8_projectOf
set_option maxRecDepth 20000 in
theorem ggX8_resize_X8_reasonFor : GoodIn wsX8_resize wsX8_reasonFor := goodIn_r _ [31, 32, 33, 34, 7, 35, 36, 37, 38, 39, 40, 2, 41, 42, 43, 44, 45, 46, 47, 48, 49, 50, 51, 52, 53, 54, 55, 56, 57, 58, 59, 60, 61, 62, 77, 78, 79, 80, 81, 82, 83, 84, 85, 86, 87, 88, 89, 90, 91, 92, 93, 94] (by decide +kernel) (by decide +kernel)
set_option maxRecDepth 20000 in
theorem gX8_resize_X8_reasonFor : GoodIn wsX8_resize (wsV RX8 283 RX8 yX8_reasonFor wsX8_reasonFor) := goodIn_app (goodIn_of _ (by decide +kernel)) ggX8_resize_X8_reasonFor
set_option maxRecDepth 20000 in
theorem ggX8_resize_X8_keeps : GoodIn wsX8_resize wsX8_keeps := goodIn_r _ [66, 67, 68, 2, 77, 78, 79, 80, 81, 82, 83, 84, 85, 86, 87, 88, 89, 90, 91, 92, 93, 94] (by decide +kernel) (by decide +kernel)
set_option maxRecDepth 20000 in
theorem gX8_resize_X8_keeps : GoodIn wsX8_resize (wsV RX8 179 RX8 yX8_keeps wsX8_keeps) := goodIn_app (goodIn_of _ (by decide +kernel)) ggX8_resize_X8_keeps
set_option maxRecDepth 20000 in
theorem ggX8_resize_X8_counts : GoodIn wsX8_resize wsX8_counts := goodIn_r _ [72, 2, 41, 42, 7, 43, 51, 52, 53, 54, 48, 49, 50, 77, 78, 79, 80, 81, 82, 83, 84, 85, 86, 87, 88, 89, 90, 91, 92, 93, 94] (by decide +kernel) (by decide +kernel)
set_option maxRecDepth 20000 in
theorem gX8_resize_X8_counts : GoodIn wsX8_resize (wsV RX8 287 RX8 yX8_counts wsX8_counts) := goodIn_app (goodIn_of _ (by decide +kernel)) ggX8_resize_X8_counts
set_option maxRecDepth 20000 in
theorem ggX8_resize_X8_setsClocks : GoodIn wsX8_resize wsX8_setsClocks := goodIn_r _ [76, 36, 2, 37, 38, 39, 7, 40, 41, 42, 43, 44, 45, 46, 47, 48, 49, 50, 77, 78, 79, 80, 81, 82, 83, 84, 85, 86, 87, 88, 89, 90, 91, 92, 93, 94] (by decide +kernel) (by decide +kernel)
set_option maxRecDepth 20000 in
theorem gX8_resize_X8_setsClocks : GoodIn wsX8_resize (wsV RX8 186 RX8 yX8_setsClocks wsX8_setsClocks) := goodIn_app (goodIn_of _ (by decide +kernel)) ggX8_resize_X8_setsClocks
theorem dX8_resize_0 : decode cX8_resize 0 = .ok (.aload_n 0, 1) := by decide +kernel
theorem dX8_resize_1 : decode cX8_resize 1 = .ok (.iload_n 1, 1) := by decide +kernel
theorem dX8_resize_2 : decode cX8_resize 2 = .ok (.invokevirtual 310, 3) := by decide +kernel
theorem dX8_resize_5 : decode cX8_resize 5 = .ok (.ifCond .eq 19, 3) := by decide +kernel
theorem dX8_resize_8 : decode cX8_resize 8 = .ok (.iload_n 2, 1) := by decide +kernel
theorem dX8_resize_9 : decode cX8_resize 9 = .ok (.i2l, 1) := by decide +kernel
theorem dX8_resize_10 : decode cX8_resize 10 = .ok (.lconst 0, 1) := by decide +kernel
theorem dX8_resize_11 : decode cX8_resize 11 = .ok (.ldc2_w 315, 3) := by decide +kernel
theorem dX8_resize_14 : decode cX8_resize 14 = .ok (.invokestatic 59, 3) := by decide +kernel
theorem dX8_resize_17 : decode cX8_resize 17 = .ok (.ifCond .eq 7, 3) := by decide +kernel
theorem dX8_resize_20 : decode cX8_resize 20 = .ok (.iconst 1, 1) := by decide +kernel
theorem dX8_resize_21 : decode cX8_resize 21 = .ok (.goto 4, 3) := by decide +kernel
theorem dX8_resize_24 : decode cX8_resize 24 = .ok (.iconst 0, 1) := by decide +kernel
theorem dX8_resize_25 : decode cX8_resize 25 = .ok (.istore_n 3, 1) := by decide +kernel
theorem dX8_resize_26 : decode cX8_resize 26 = .ok (.aload_n 0, 1) := by decide +kernel
theorem dX8_resize_27 : decode cX8_resize 27 = .ok (.aload_n 0, 1) := by decide +kernel
theorem dX8_resize_28 : decode cX8_resize 28 = .ok (.iload_n 1, 1) := by decide +kernel
theorem dX8_resize_29 : decode cX8_resize 29 = .ok (.invokevirtual 310, 3) := by decide +kernel
theorem dX8_resize_32 : decode cX8_resize 32 = .ok (.ifCond .ne 7, 3) := by decide +kernel
theorem dX8_resize_35 : decode cX8_resize 35 = .ok (.iconst 1, 1) := by decide +kernel
theorem dX8_resize_36 : decode cX8_resize 36 = .ok (.goto 46, 3) := by decide +kernel
theorem dX8_resize_39 : decode cX8_resize 39 = .ok (.iload_n 3, 1) := by decide +kernel
theorem dX8_resize_40 : decode cX8_resize 40 = .ok (.ifCond .ne 7, 3) := by decide +kernel
theorem dX8_resize_43 : decode cX8_resize 43 = .ok (.iconst 2, 1) := by decide +kernel
theorem dX8_resize_44 : decode cX8_resize 44 = .ok (.goto 38, 3) := by decide +kernel
theorem dX8_resize_47 : decode cX8_resize 47 = .ok (.aload_n 0, 1) := by decide +kernel
theorem dX8_resize_48 : decode cX8_resize 48 = .ok (.aload_n 0, 1) := by decide +kernel
theorem dX8_resize_49 : decode cX8_resize 49 = .ok (.aload_n 0, 1) := by decide +kernel
theorem dX8_resize_50 : decode cX8_resize 50 = .ok (.iload_n 1, 1) := by decide +kernel
theorem dX8_resize_51 : decode cX8_resize 51 = .ok (.invokevirtual 197, 3) := by decide +kernel
theorem dX8_resize_54 : decode cX8_resize 54 = .ok (.invokevirtual 207, 3) := by decide +kernel
theorem dX8_resize_57 : decode cX8_resize 57 = .ok (.iload_n 2, 1) := by decide +kernel
theorem dX8_resize_58 : decode cX8_resize 58 = .ok (.i2l, 1) := by decide +kernel
theorem dX8_resize_59 : decode cX8_resize 59 = .ok (.aload_n 0, 1) := by decide +kernel
theorem dX8_resize_60 : decode cX8_resize 60 = .ok (.getfield 7, 3) := by decide +kernel
theorem dX8_resize_63 : decode cX8_resize 63 = .ok (.sipush 249, 3) := by decide +kernel
theorem dX8_resize_66 : decode cX8_resize 66 = .ok (.iload_n 1, 1) := by decide +kernel
theorem dX8_resize_67 : decode cX8_resize 67 = .ok (.iadd, 1) := by decide +kernel
theorem dX8_resize_68 : decode cX8_resize 68 = .ok (.laload, 1) := by decide +kernel
theorem dX8_resize_69 : decode cX8_resize 69 = .ok (.lsub, 1) := by decide +kernel
theorem dX8_resize_70 : decode cX8_resize 70 = .ok (.lconst 0, 1) := by decide +kernel
theorem dX8_resize_71 : decode cX8_resize 71 = .ok (.invokevirtual 283, 3) := by decide +kernel
theorem dX8_resize_74 : decode cX8_resize 74 = .ok (.ifCond .le 7, 3) := by decide +kernel
theorem dX8_resize_77 : decode cX8_resize 77 = .ok (.iconst 3, 1) := by decide +kernel
theorem dX8_resize_78 : decode cX8_resize 78 = .ok (.goto 4, 3) := by decide +kernel
theorem dX8_resize_81 : decode cX8_resize 81 = .ok (.iconst 0, 1) := by decide +kernel
theorem dX8_resize_82 : decode cX8_resize 82 = .ok (.putfield 43, 3) := by decide +kernel
theorem dX8_resize_85 : decode cX8_resize 85 = .ok (.aload_n 0, 1) := by decide +kernel
theorem dX8_resize_86 : decode cX8_resize 86 = .ok (.getfield 43, 3) := by decide +kernel
theorem dX8_resize_89 : decode cX8_resize 89 = .ok (.ifCond .le 5, 3) := by decide +kernel
theorem dX8_resize_92 : decode cX8_resize 92 = .ok (.iconst 0, 1) := by decide +kernel
theorem dX8_resize_93 : decode cX8_resize 93 = .ok (.ireturn, 1) := by decide +kernel
theorem dX8_resize_94 : decode cX8_resize 94 = .ok (.aload_n 0, 1) := by decide +kernel
theorem dX8_resize_95 : decode cX8_resize 95 = .ok (.invokevirtual 179, 3) := by decide +kernel
theorem dX8_resize_98 : decode cX8_resize 98 = .ok (.aload_n 0, 1) := by decide +kernel
theorem dX8_resize_99 : decode cX8_resize 99 = .ok (.getfield 7, 3) := by decide +kernel
theorem dX8_resize_102 : decode cX8_resize 102 = .ok (.sipush 249, 3) := by decide +kernel
theorem dX8_resize_105 : decode cX8_resize 105 = .ok (.iload_n 1, 1) := by decide +kernel
theorem dX8_resize_106 : decode cX8_resize 106 = .ok (.iadd, 1) := by decide +kernel
theorem dX8_resize_107 : decode cX8_resize 107 = .ok (.laload, 1) := by decide +kernel
theorem dX8_resize_108 : decode cX8_resize 108 = .ok (.l2i, 1) := by decide +kernel
theorem dX8_resize_109 : decode cX8_resize 109 = .ok (.istore 4, 2) := by decide +kernel
theorem dX8_resize_111 : decode cX8_resize 111 = .ok (.aload_n 0, 1) := by decide +kernel
theorem dX8_resize_112 : decode cX8_resize 112 = .ok (.aload_n 0, 1) := by decide +kernel
theorem dX8_resize_113 : decode cX8_resize 113 = .ok (.aload_n 0, 1) := by decide +kernel
theorem dX8_resize_114 : decode cX8_resize 114 = .ok (.iload_n 1, 1) := by decide +kernel
theorem dX8_resize_115 : decode cX8_resize 115 = .ok (.invokevirtual 197, 3) := by decide +kernel
theorem dX8_resize_118 : decode cX8_resize 118 = .ok (.invokevirtual 207, 3) := by decide +kernel
theorem dX8_resize_121 : decode cX8_resize 121 = .ok (.iload_n 2, 1) := by decide +kernel
theorem dX8_resize_122 : decode cX8_resize 122 = .ok (.iload 4, 2) := by decide +kernel
theorem dX8_resize_124 : decode cX8_resize 124 = .ok (.isub, 1) := by decide +kernel
theorem dX8_resize_125 : decode cX8_resize 125 = .ok (.i2l, 1) := by decide +kernel
theorem dX8_resize_126 : decode cX8_resize 126 = .ok (.lconst 0, 1) := by decide +kernel
theorem dX8_resize_127 : decode cX8_resize 127 = .ok (.invokevirtual 287, 3) := by decide +kernel
theorem dX8_resize_130 : decode cX8_resize 130 = .ok (.aload_n 0, 1) := by decide +kernel
theorem dX8_resize_131 : decode cX8_resize 131 = .ok (.getfield 7, 3) := by decide +kernel
theorem dX8_resize_134 : decode cX8_resize 134 = .ok (.sipush 249, 3) := by decide +kernel
theorem dX8_resize_137 : decode cX8_resize 137 = .ok (.iload_n 1, 1) := by decide +kernel
theorem dX8_resize_138 : decode cX8_resize 138 = .ok (.iadd, 1) := by decide +kernel
theorem dX8_resize_139 : decode cX8_resize 139 = .ok (.iload_n 2, 1) := by decide +kernel
theorem dX8_resize_140 : decode cX8_resize 140 = .ok (.i2l, 1) := by decide +kernel
theorem dX8_resize_141 : decode cX8_resize 141 = .ok (.lastore, 1) := by decide +kernel
theorem dX8_resize_142 : decode cX8_resize 142 = .ok (.aload_n 0, 1) := by decide +kernel
theorem dX8_resize_143 : decode cX8_resize 143 = .ok (.invokevirtual 186, 3) := by decide +kernel
theorem dX8_resize_146 : decode cX8_resize 146 = .ok (.iload 4, 2) := by decide +kernel
theorem dX8_resize_148 : decode cX8_resize 148 = .ok (.ireturn, 1) := by decide +kernel
set_option maxRecDepth 20000 in
theorem ggX8_delete_X8_isFile : GoodIn wsX8_delete wsX8_isFile := goodIn_r _ [8, 2, 9, 10, 7, 11, 64, 65, 66, 67, 68, 69, 70, 71, 72, 73, 74, 75, 76, 77, 78, 79, 80, 81] (by decide +kernel) (by decide +kernel)
set_option maxRecDepth 20000 in
theorem gX8_delete_X8_isFile : GoodIn wsX8_delete (wsV RX8 310 RX8 yX8_isFile wsX8_isFile) := goodIn_app (goodIn_of _ (by decide +kernel)) ggX8_delete_X8_isFile
set_option maxRecDepth 20000 in
theorem ggX8_delete_X8_keeps : GoodIn wsX8_delete wsX8_keeps := goodIn_r _ [15, 16, 17, 2, 64, 65, 66, 67, 68, 69, 70, 71, 72, 73, 74, 75, 76, 77, 78, 79, 80, 81] (by decide +kernel) (by decide +kernel)
set_option maxRecDepth 20000 in
theorem gX8_delete_X8_keeps : GoodIn wsX8_delete (wsV RX8 179 RX8 yX8_keeps wsX8_keeps) := goodIn_app (goodIn_of _ (by decide +kernel)) ggX8_delete_X8_keeps
set_option maxRecDepth 20000 in
theorem ggX8_delete_X8_folderOf : GoodIn wsX8_delete wsX8_folderOf := goodIn_r _ [21, 2, 64, 65, 66, 67, 68, 69, 70, 71, 72, 73, 74, 75, 76, 77, 78, 79, 80, 81] (by decide +kernel) (by decide +kernel)
set_option maxRecDepth 20000 in
theorem gX8_delete_X8_folderOf : GoodIn wsX8_delete (wsV RX8 197 RX8 yX8_folderOf wsX8_folderOf) := goodIn_app (goodIn_of _ (by decide +kernel)) ggX8_delete_X8_folderOf
set_option maxRecDepth 20000 in
theorem ggX8_delete_X8_projectOf : GoodIn wsX8_delete wsX8_projectOf := goodIn_r _ [25, 26, 27, 28, 7, 29, 2, 30, 31, 32, 33, 64, 65, 66, 67, 68, 69, 70, 71, 72, 73, 74, 75, 76, 77, 78, 79, 80, 81] (by decide +kernel) (by decide +kernel)
set_option maxRecDepth 20000 in
theorem gX8_delete_X8_projectOf : GoodIn wsX8_delete (wsV RX8 207 RX8 yX8_projectOf wsX8_projectOf) := goodIn_app (goodIn_of _ (by decide +kernel)) ggX8_delete_X8_projectOf
set_option maxRecDepth 20000 in
theorem ggX8_delete_X8_counts : GoodIn wsX8_delete wsX8_counts := goodIn_r _ [37, 2, 38, 39, 7, 40, 41, 42, 43, 44, 45, 46, 47, 64, 65, 66, 67, 68, 69, 70, 71, 72, 73, 74, 75, 76, 77, 78, 79, 80, 81] (by decide +kernel) (by decide +kernel)
set_option maxRecDepth 20000 in
theorem gX8_delete_X8_counts : GoodIn wsX8_delete (wsV RX8 287 RX8 yX8_counts wsX8_counts) := goodIn_app (goodIn_of _ (by decide +kernel)) ggX8_delete_X8_counts
set_option maxRecDepth 20000 in
theorem ggX8_delete_X8_closesUp : GoodIn wsX8_delete wsX8_closesUp := goodIn_r _ [51, 2, 64, 65, 66, 67, 68, 69, 70, 71, 72, 73, 74, 75, 76, 77, 78, 79, 80, 81] (by decide +kernel) (by decide +kernel)
set_option maxRecDepth 20000 in
theorem gX8_delete_X8_closesUp : GoodIn wsX8_delete (wsV RX8 251 RX8 yX8_closesUp wsX8_closesUp) := goodIn_app (goodIn_of _ (by decide +kernel)) ggX8_delete_X8_closesUp
set_option maxRecDepth 20000 in
theorem ggX8_delete_X8_setsClocks : GoodIn wsX8_delete wsX8_setsClocks := goodIn_r _ [55, 3, 2, 56, 57, 58, 7, 59, 38, 39, 40, 60, 61, 62, 63, 45, 46, 47, 64, 65, 66, 67, 68, 69, 70, 71, 72, 73, 74, 75, 76, 77, 78, 79, 80, 81] (by decide +kernel) (by decide +kernel)
set_option maxRecDepth 20000 in
theorem gX8_delete_X8_setsClocks : GoodIn wsX8_delete (wsV RX8 186 RX8 yX8_setsClocks wsX8_setsClocks) := goodIn_app (goodIn_of _ (by decide +kernel)) ggX8_delete_X8_setsClocks
theorem dX8_delete_0 : decode cX8_delete 0 = .ok (.aload_n 0, 1) := by decide +kernel
theorem dX8_delete_1 : decode cX8_delete 1 = .ok (.aload_n 0, 1) := by decide +kernel
theorem dX8_delete_2 : decode cX8_delete 2 = .ok (.iload_n 1, 1) := by decide +kernel
theorem dX8_delete_3 : decode cX8_delete 3 = .ok (.invokevirtual 310, 3) := by decide +kernel
theorem dX8_delete_6 : decode cX8_delete 6 = .ok (.ifCond .eq 7, 3) := by decide +kernel
theorem dX8_delete_9 : decode cX8_delete 9 = .ok (.iconst 0, 1) := by decide +kernel
theorem dX8_delete_10 : decode cX8_delete 10 = .ok (.goto 4, 3) := by decide +kernel
theorem dX8_delete_13 : decode cX8_delete 13 = .ok (.iconst 1, 1) := by decide +kernel
theorem dX8_delete_14 : decode cX8_delete 14 = .ok (.putfield 43, 3) := by decide +kernel
theorem dX8_delete_17 : decode cX8_delete 17 = .ok (.aload_n 0, 1) := by decide +kernel
theorem dX8_delete_18 : decode cX8_delete 18 = .ok (.getfield 43, 3) := by decide +kernel
theorem dX8_delete_21 : decode cX8_delete 21 = .ok (.ifCond .le 5, 3) := by decide +kernel
theorem dX8_delete_24 : decode cX8_delete 24 = .ok (.iconst 0, 1) := by decide +kernel
theorem dX8_delete_25 : decode cX8_delete 25 = .ok (.ireturn, 1) := by decide +kernel
theorem dX8_delete_26 : decode cX8_delete 26 = .ok (.aload_n 0, 1) := by decide +kernel
theorem dX8_delete_27 : decode cX8_delete 27 = .ok (.invokevirtual 179, 3) := by decide +kernel
theorem dX8_delete_30 : decode cX8_delete 30 = .ok (.aload_n 0, 1) := by decide +kernel
theorem dX8_delete_31 : decode cX8_delete 31 = .ok (.aload_n 0, 1) := by decide +kernel
theorem dX8_delete_32 : decode cX8_delete 32 = .ok (.aload_n 0, 1) := by decide +kernel
theorem dX8_delete_33 : decode cX8_delete 33 = .ok (.iload_n 1, 1) := by decide +kernel
theorem dX8_delete_34 : decode cX8_delete 34 = .ok (.invokevirtual 197, 3) := by decide +kernel
theorem dX8_delete_37 : decode cX8_delete 37 = .ok (.invokevirtual 207, 3) := by decide +kernel
theorem dX8_delete_40 : decode cX8_delete 40 = .ok (.aload_n 0, 1) := by decide +kernel
theorem dX8_delete_41 : decode cX8_delete 41 = .ok (.getfield 7, 3) := by decide +kernel
theorem dX8_delete_44 : decode cX8_delete 44 = .ok (.sipush 249, 3) := by decide +kernel
theorem dX8_delete_47 : decode cX8_delete 47 = .ok (.iload_n 1, 1) := by decide +kernel
theorem dX8_delete_48 : decode cX8_delete 48 = .ok (.iadd, 1) := by decide +kernel
theorem dX8_delete_49 : decode cX8_delete 49 = .ok (.laload, 1) := by decide +kernel
theorem dX8_delete_50 : decode cX8_delete 50 = .ok (.lneg, 1) := by decide +kernel
theorem dX8_delete_51 : decode cX8_delete 51 = .ok (.ldc2_w 37, 3) := by decide +kernel
theorem dX8_delete_54 : decode cX8_delete 54 = .ok (.invokevirtual 287, 3) := by decide +kernel
theorem dX8_delete_57 : decode cX8_delete 57 = .ok (.aload_n 0, 1) := by decide +kernel
theorem dX8_delete_58 : decode cX8_delete 58 = .ok (.getfield 7, 3) := by decide +kernel
theorem dX8_delete_61 : decode cX8_delete 61 = .ok (.iconst 3, 1) := by decide +kernel
theorem dX8_delete_62 : decode cX8_delete 62 = .ok (.dup2, 1) := by decide +kernel
theorem dX8_delete_63 : decode cX8_delete 63 = .ok (.laload, 1) := by decide +kernel
theorem dX8_delete_64 : decode cX8_delete 64 = .ok (.lconst 1, 1) := by decide +kernel
theorem dX8_delete_65 : decode cX8_delete 65 = .ok (.lsub, 1) := by decide +kernel
theorem dX8_delete_66 : decode cX8_delete 66 = .ok (.lastore, 1) := by decide +kernel
theorem dX8_delete_67 : decode cX8_delete 67 = .ok (.aload_n 0, 1) := by decide +kernel
theorem dX8_delete_68 : decode cX8_delete 68 = .ok (.sipush 189, 3) := by decide +kernel
theorem dX8_delete_71 : decode cX8_delete 71 = .ok (.iload_n 1, 1) := by decide +kernel
theorem dX8_delete_72 : decode cX8_delete 72 = .ok (.aload_n 0, 1) := by decide +kernel
theorem dX8_delete_73 : decode cX8_delete 73 = .ok (.getfield 7, 3) := by decide +kernel
theorem dX8_delete_76 : decode cX8_delete 76 = .ok (.iconst 3, 1) := by decide +kernel
theorem dX8_delete_77 : decode cX8_delete 77 = .ok (.laload, 1) := by decide +kernel
theorem dX8_delete_78 : decode cX8_delete 78 = .ok (.l2i, 1) := by decide +kernel
theorem dX8_delete_79 : decode cX8_delete 79 = .ok (.invokevirtual 251, 3) := by decide +kernel
theorem dX8_delete_82 : decode cX8_delete 82 = .ok (.aload_n 0, 1) := by decide +kernel
theorem dX8_delete_83 : decode cX8_delete 83 = .ok (.sipush 249, 3) := by decide +kernel
theorem dX8_delete_86 : decode cX8_delete 86 = .ok (.iload_n 1, 1) := by decide +kernel
theorem dX8_delete_87 : decode cX8_delete 87 = .ok (.aload_n 0, 1) := by decide +kernel
theorem dX8_delete_88 : decode cX8_delete 88 = .ok (.getfield 7, 3) := by decide +kernel
theorem dX8_delete_91 : decode cX8_delete 91 = .ok (.iconst 3, 1) := by decide +kernel
theorem dX8_delete_92 : decode cX8_delete 92 = .ok (.laload, 1) := by decide +kernel
theorem dX8_delete_93 : decode cX8_delete 93 = .ok (.l2i, 1) := by decide +kernel
theorem dX8_delete_94 : decode cX8_delete 94 = .ok (.invokevirtual 251, 3) := by decide +kernel
theorem dX8_delete_97 : decode cX8_delete 97 = .ok (.aload_n 0, 1) := by decide +kernel
theorem dX8_delete_98 : decode cX8_delete 98 = .ok (.invokevirtual 186, 3) := by decide +kernel
theorem dX8_delete_101 : decode cX8_delete 101 = .ok (.aload_n 0, 1) := by decide +kernel
theorem dX8_delete_102 : decode cX8_delete 102 = .ok (.getfield 7, 3) := by decide +kernel
theorem dX8_delete_105 : decode cX8_delete 105 = .ok (.iconst 3, 1) := by decide +kernel
theorem dX8_delete_106 : decode cX8_delete 106 = .ok (.laload, 1) := by decide +kernel
theorem dX8_delete_107 : decode cX8_delete 107 = .ok (.l2i, 1) := by decide +kernel
theorem dX8_delete_108 : decode cX8_delete 108 = .ok (.ireturn, 1) := by decide +kernel
set_option maxRecDepth 20000 in
theorem ggX8_moveFile_X8_isFile : GoodIn wsX8_moveFile wsX8_isFile := goodIn_r _ [8, 2, 9, 10, 7, 11, 84, 85, 86, 87, 88, 89, 90, 91, 92, 93, 94, 95, 96, 97, 98, 99, 100, 101] (by decide +kernel) (by decide +kernel)
set_option maxRecDepth 20000 in
theorem gX8_moveFile_X8_isFile : GoodIn wsX8_moveFile (wsV RX8 310 RX8 yX8_isFile wsX8_isFile) := goodIn_app (goodIn_of _ (by decide +kernel)) ggX8_moveFile_X8_isFile
set_option maxRecDepth 20000 in
theorem ggX8_moveFile_X8_isFolder : GoodIn wsX8_moveFile wsX8_isFolder := goodIn_r _ [15, 2, 9, 10, 7, 11, 84, 85, 86, 87, 88, 89, 90, 91, 92, 93, 94, 95, 96, 97, 98, 99, 100, 101] (by decide +kernel) (by decide +kernel)
set_option maxRecDepth 20000 in
theorem gX8_moveFile_X8_isFolder : GoodIn wsX8_moveFile (wsV RX8 220 RX8 yX8_isFolder wsX8_isFolder) := goodIn_app (goodIn_of _ (by decide +kernel)) ggX8_moveFile_X8_isFolder
set_option maxRecDepth 20000 in
theorem ggX8_moveFile_X8_reasonToCarry : GoodIn wsX8_moveFile wsX8_reasonToCarry := goodIn_r _ [19, 2, 20, 21, 22, 7, 23, 24, 25, 26, 27, 28, 29, 30, 31, 32, 33, 34, 35, 36, 37, 38, 39, 40, 41, 42, 43, 3, 44, 45, 46, 47, 48, 49, 50, 51, 52, 53, 54, 55, 56, 57, 58, 59, 60, 61, 62, 63, 64, 65, 66, 67, 68, 69, 84, 85, 86, 87, 88, 89, 90, 91, 92, 93, 94, 95, 96, 97, 98, 99, 100, 101] (by decide +kernel) (by decide +kernel)
set_option maxRecDepth 20000 in
theorem gX8_moveFile_X8_reasonToCarry : GoodIn wsX8_moveFile (wsV RX8 317 RX8 yX8_reasonToCarry wsX8_reasonToCarry) := goodIn_app (goodIn_of _ (by decide +kernel)) ggX8_moveFile_X8_reasonToCarry
set_option maxRecDepth 20000 in
theorem ggX8_moveFile_X8_keeps : GoodIn wsX8_moveFile wsX8_keeps := goodIn_r _ [73, 74, 75, 2, 84, 85, 86, 87, 88, 89, 90, 91, 92, 93, 94, 95, 96, 97, 98, 99, 100, 101] (by decide +kernel) (by decide +kernel)
set_option maxRecDepth 20000 in
theorem gX8_moveFile_X8_keeps : GoodIn wsX8_moveFile (wsV RX8 179 RX8 yX8_keeps wsX8_keeps) := goodIn_app (goodIn_of _ (by decide +kernel)) ggX8_moveFile_X8_keeps
set_option maxRecDepth 20000 in
theorem ggX8_moveFile_X8_folderOf : GoodIn wsX8_moveFile wsX8_folderOf := goodIn_r _ [35, 2, 84, 85, 86, 87, 88, 89, 90, 91, 92, 93, 94, 95, 96, 97, 98, 99, 100, 101] (by decide +kernel) (by decide +kernel)
set_option maxRecDepth 20000 in
theorem gX8_moveFile_X8_folderOf : GoodIn wsX8_moveFile (wsV RX8 197 RX8 yX8_folderOf wsX8_folderOf) := goodIn_app (goodIn_of _ (by decide +kernel)) ggX8_moveFile_X8_folderOf
set_option maxRecDepth 20000 in
theorem ggX8_moveFile_X8_projectOf : GoodIn wsX8_moveFile wsX8_projectOf := goodIn_r _ [23, 24, 25, 26, 7, 27, 2, 28, 29, 30, 31, 84, 85, 86, 87, 88, 89, 90, 91, 92, 93, 94, 95, 96, 97, 98, 99, 100, 101] (by decide +kernel) (by decide +kernel)
set_option maxRecDepth 20000 in
theorem gX8_moveFile_X8_projectOf : GoodIn wsX8_moveFile (wsV RX8 207 RX8 yX8_projectOf wsX8_projectOf) := goodIn_app (goodIn_of _ (by decide +kernel)) ggX8_moveFile_X8_projectOf
set_option maxRecDepth 20000 in
theorem ggX8_moveFile_X8_counts : GoodIn wsX8_moveFile wsX8_counts := goodIn_r _ [79, 2, 48, 49, 7, 50, 58, 59, 60, 61, 55, 56, 57, 84, 85, 86, 87, 88, 89, 90, 91, 92, 93, 94, 95, 96, 97, 98, 99, 100, 101] (by decide +kernel) (by decide +kernel)
set_option maxRecDepth 20000 in
theorem gX8_moveFile_X8_counts : GoodIn wsX8_moveFile (wsV RX8 287 RX8 yX8_counts wsX8_counts) := goodIn_app (goodIn_of _ (by decide +kernel)) ggX8_moveFile_X8_counts
set_option maxRecDepth 20000 in
theorem ggX8_moveFile_X8_setsClocks : GoodIn wsX8_moveFile wsX8_setsClocks := goodIn_r _ [83, 3, 2, 44, 45, 46, 7, 47, 48, 49, 50, 51, 52, 53, 54, 55, 56, 57, 84, 85, 86, 87, 88, 89, 90, 91, 92, 93, 94, 95, 96, 97, 98, 99, 100, 101] (by decide +kernel) (by decide +kernel)
set_option maxRecDepth 20000 in
theorem gX8_moveFile_X8_setsClocks : GoodIn wsX8_moveFile (wsV RX8 186 RX8 yX8_setsClocks wsX8_setsClocks) := goodIn_app (goodIn_of _ (by decide +kernel)) ggX8_moveFile_X8_setsClocks
theorem dX8_moveFile_0 : decode cX8_moveFile 0 = .ok (.aload_n 0, 1) := by decide +kernel
theorem dX8_moveFile_1 : decode cX8_moveFile 1 = .ok (.aload_n 0, 1) := by decide +kernel
theorem dX8_moveFile_2 : decode cX8_moveFile 2 = .ok (.iload_n 1, 1) := by decide +kernel
theorem dX8_moveFile_3 : decode cX8_moveFile 3 = .ok (.invokevirtual 310, 3) := by decide +kernel
theorem dX8_moveFile_6 : decode cX8_moveFile 6 = .ok (.ifCond .eq 11, 3) := by decide +kernel
theorem dX8_moveFile_9 : decode cX8_moveFile 9 = .ok (.aload_n 0, 1) := by decide +kernel
theorem dX8_moveFile_10 : decode cX8_moveFile 10 = .ok (.iload_n 2, 1) := by decide +kernel
theorem dX8_moveFile_11 : decode cX8_moveFile 11 = .ok (.invokevirtual 220, 3) := by decide +kernel
theorem dX8_moveFile_14 : decode cX8_moveFile 14 = .ok (.ifCond .ne 7, 3) := by decide +kernel
theorem dX8_moveFile_17 : decode cX8_moveFile 17 = .ok (.iconst 1, 1) := by decide +kernel
theorem dX8_moveFile_18 : decode cX8_moveFile 18 = .ok (.goto 17, 3) := by decide +kernel
theorem dX8_moveFile_21 : decode cX8_moveFile 21 = .ok (.aload_n 0, 1) := by decide +kernel
theorem dX8_moveFile_22 : decode cX8_moveFile 22 = .ok (.iload_n 1, 1) := by decide +kernel
theorem dX8_moveFile_23 : decode cX8_moveFile 23 = .ok (.iload_n 2, 1) := by decide +kernel
theorem dX8_moveFile_24 : decode cX8_moveFile 24 = .ok (.invokevirtual 317, 3) := by decide +kernel
theorem dX8_moveFile_27 : decode cX8_moveFile 27 = .ok (.ifCond .le 7, 3) := by decide +kernel
theorem dX8_moveFile_30 : decode cX8_moveFile 30 = .ok (.iconst 2, 1) := by decide +kernel
theorem dX8_moveFile_31 : decode cX8_moveFile 31 = .ok (.goto 4, 3) := by decide +kernel
theorem dX8_moveFile_34 : decode cX8_moveFile 34 = .ok (.iconst 0, 1) := by decide +kernel
theorem dX8_moveFile_35 : decode cX8_moveFile 35 = .ok (.putfield 43, 3) := by decide +kernel
theorem dX8_moveFile_38 : decode cX8_moveFile 38 = .ok (.aload_n 0, 1) := by decide +kernel
theorem dX8_moveFile_39 : decode cX8_moveFile 39 = .ok (.getfield 43, 3) := by decide +kernel
theorem dX8_moveFile_42 : decode cX8_moveFile 42 = .ok (.ifCond .le 5, 3) := by decide +kernel
theorem dX8_moveFile_45 : decode cX8_moveFile 45 = .ok (.iconst 0, 1) := by decide +kernel
theorem dX8_moveFile_46 : decode cX8_moveFile 46 = .ok (.ireturn, 1) := by decide +kernel
theorem dX8_moveFile_47 : decode cX8_moveFile 47 = .ok (.aload_n 0, 1) := by decide +kernel
theorem dX8_moveFile_48 : decode cX8_moveFile 48 = .ok (.invokevirtual 179, 3) := by decide +kernel
theorem dX8_moveFile_51 : decode cX8_moveFile 51 = .ok (.aload_n 0, 1) := by decide +kernel
theorem dX8_moveFile_52 : decode cX8_moveFile 52 = .ok (.aload_n 0, 1) := by decide +kernel
theorem dX8_moveFile_53 : decode cX8_moveFile 53 = .ok (.iload_n 1, 1) := by decide +kernel
theorem dX8_moveFile_54 : decode cX8_moveFile 54 = .ok (.invokevirtual 197, 3) := by decide +kernel
theorem dX8_moveFile_57 : decode cX8_moveFile 57 = .ok (.invokevirtual 207, 3) := by decide +kernel
theorem dX8_moveFile_60 : decode cX8_moveFile 60 = .ok (.istore_n 3, 1) := by decide +kernel
theorem dX8_moveFile_61 : decode cX8_moveFile 61 = .ok (.aload_n 0, 1) := by decide +kernel
theorem dX8_moveFile_62 : decode cX8_moveFile 62 = .ok (.iload_n 2, 1) := by decide +kernel
theorem dX8_moveFile_63 : decode cX8_moveFile 63 = .ok (.invokevirtual 207, 3) := by decide +kernel
theorem dX8_moveFile_66 : decode cX8_moveFile 66 = .ok (.istore 4, 2) := by decide +kernel
theorem dX8_moveFile_68 : decode cX8_moveFile 68 = .ok (.iload_n 3, 1) := by decide +kernel
theorem dX8_moveFile_69 : decode cX8_moveFile 69 = .ok (.iload 4, 2) := by decide +kernel
theorem dX8_moveFile_71 : decode cX8_moveFile 71 = .ok (.if_icmp .eq 39, 3) := by decide +kernel
theorem dX8_moveFile_74 : decode cX8_moveFile 74 = .ok (.aload_n 0, 1) := by decide +kernel
theorem dX8_moveFile_75 : decode cX8_moveFile 75 = .ok (.iload 4, 2) := by decide +kernel
theorem dX8_moveFile_77 : decode cX8_moveFile 77 = .ok (.aload_n 0, 1) := by decide +kernel
theorem dX8_moveFile_78 : decode cX8_moveFile 78 = .ok (.getfield 7, 3) := by decide +kernel
theorem dX8_moveFile_81 : decode cX8_moveFile 81 = .ok (.sipush 249, 3) := by decide +kernel
theorem dX8_moveFile_84 : decode cX8_moveFile 84 = .ok (.iload_n 1, 1) := by decide +kernel
theorem dX8_moveFile_85 : decode cX8_moveFile 85 = .ok (.iadd, 1) := by decide +kernel
theorem dX8_moveFile_86 : decode cX8_moveFile 86 = .ok (.laload, 1) := by decide +kernel
theorem dX8_moveFile_87 : decode cX8_moveFile 87 = .ok (.lconst 1, 1) := by decide +kernel
theorem dX8_moveFile_88 : decode cX8_moveFile 88 = .ok (.invokevirtual 287, 3) := by decide +kernel
theorem dX8_moveFile_91 : decode cX8_moveFile 91 = .ok (.aload_n 0, 1) := by decide +kernel
theorem dX8_moveFile_92 : decode cX8_moveFile 92 = .ok (.iload_n 3, 1) := by decide +kernel
theorem dX8_moveFile_93 : decode cX8_moveFile 93 = .ok (.aload_n 0, 1) := by decide +kernel
theorem dX8_moveFile_94 : decode cX8_moveFile 94 = .ok (.getfield 7, 3) := by decide +kernel
theorem dX8_moveFile_97 : decode cX8_moveFile 97 = .ok (.sipush 249, 3) := by decide +kernel
theorem dX8_moveFile_100 : decode cX8_moveFile 100 = .ok (.iload_n 1, 1) := by decide +kernel
theorem dX8_moveFile_101 : decode cX8_moveFile 101 = .ok (.iadd, 1) := by decide +kernel
theorem dX8_moveFile_102 : decode cX8_moveFile 102 = .ok (.laload, 1) := by decide +kernel
theorem dX8_moveFile_103 : decode cX8_moveFile 103 = .ok (.lneg, 1) := by decide +kernel
theorem dX8_moveFile_104 : decode cX8_moveFile 104 = .ok (.ldc2_w 37, 3) := by decide +kernel
theorem dX8_moveFile_107 : decode cX8_moveFile 107 = .ok (.invokevirtual 287, 3) := by decide +kernel
theorem dX8_moveFile_110 : decode cX8_moveFile 110 = .ok (.aload_n 0, 1) := by decide +kernel
theorem dX8_moveFile_111 : decode cX8_moveFile 111 = .ok (.getfield 7, 3) := by decide +kernel
theorem dX8_moveFile_114 : decode cX8_moveFile 114 = .ok (.sipush 189, 3) := by decide +kernel
theorem dX8_moveFile_117 : decode cX8_moveFile 117 = .ok (.iload_n 1, 1) := by decide +kernel
theorem dX8_moveFile_118 : decode cX8_moveFile 118 = .ok (.iadd, 1) := by decide +kernel
theorem dX8_moveFile_119 : decode cX8_moveFile 119 = .ok (.iload_n 2, 1) := by decide +kernel
theorem dX8_moveFile_120 : decode cX8_moveFile 120 = .ok (.i2l, 1) := by decide +kernel
theorem dX8_moveFile_121 : decode cX8_moveFile 121 = .ok (.lastore, 1) := by decide +kernel
theorem dX8_moveFile_122 : decode cX8_moveFile 122 = .ok (.aload_n 0, 1) := by decide +kernel
theorem dX8_moveFile_123 : decode cX8_moveFile 123 = .ok (.invokevirtual 186, 3) := by decide +kernel
theorem dX8_moveFile_126 : decode cX8_moveFile 126 = .ok (.iload_n 3, 1) := by decide +kernel
theorem dX8_moveFile_127 : decode cX8_moveFile 127 = .ok (.iload 4, 2) := by decide +kernel
theorem dX8_moveFile_129 : decode cX8_moveFile 129 = .ok (.if_icmp .ne 7, 3) := by decide +kernel
theorem dX8_moveFile_132 : decode cX8_moveFile 132 = .ok (.iconst 0, 1) := by decide +kernel
theorem dX8_moveFile_133 : decode cX8_moveFile 133 = .ok (.goto 4, 3) := by decide +kernel
theorem dX8_moveFile_136 : decode cX8_moveFile 136 = .ok (.iconst 1, 1) := by decide +kernel
theorem dX8_moveFile_137 : decode cX8_moveFile 137 = .ok (.ireturn, 1) := by decide +kernel
set_option maxRecDepth 20000 in
theorem ggX8_setLimit_X8_isProject : GoodIn wsX8_setLimit wsX8_isProject := goodIn_r _ [7, 8, 9, 10, 6, 11] (by decide +kernel) (by decide +kernel)
set_option maxRecDepth 20000 in
theorem gX8_setLimit_X8_isProject : GoodIn wsX8_setLimit (va_wsS RX8 320 yX8_isProject wsX8_isProject) := goodIn_app (goodIn_of _ (by decide +kernel)) ggX8_setLimit_X8_isProject
set_option maxRecDepth 20000 in
theorem ggX8_setLimit_X8_isKind : GoodIn wsX8_setLimit wsX8_isKind := goodIn_r _ [14, 9, 10, 6, 11] (by decide +kernel) (by decide +kernel)
set_option maxRecDepth 20000 in
theorem gX8_setLimit_X8_isKind : GoodIn wsX8_setLimit (va_wsS RX8 323 yX8_isKind wsX8_isKind) := goodIn_app (goodIn_of _ (by decide +kernel)) ggX8_setLimit_X8_isKind
set_option maxRecDepth 20000 in
theorem ggX8_setLimit_X8_isIn : GoodIn wsX8_setLimit wsX8_isIn := goodIn_r _ [11] (by decide +kernel) (by decide +kernel)
set_option maxRecDepth 20000 in
theorem gX8_setLimit_X8_isIn : GoodIn wsX8_setLimit (va_wsS RX8 59 yX8_isIn wsX8_isIn) := goodIn_app (goodIn_of _ (by decide +kernel)) ggX8_setLimit_X8_isIn
set_option maxRecDepth 20000 in
theorem ggX8_setLimit_X8_hasGift : GoodIn wsX8_setLimit wsX8_hasGift := goodIn_r _ [18, 3, 64, 65, 66, 67, 68, 69, 70, 71, 72, 73, 74, 75, 76, 77, 78, 79, 80, 81] (by decide +kernel) (by decide +kernel)
set_option maxRecDepth 20000 in
theorem gX8_setLimit_X8_hasGift : GoodIn wsX8_setLimit (wsV RX8 331 RX8 yX8_hasGift wsX8_hasGift) := goodIn_app (goodIn_of _ (by decide +kernel)) ggX8_setLimit_X8_hasGift
set_option maxRecDepth 20000 in
theorem ggX8_setLimit_X8_keeps : GoodIn wsX8_setLimit wsX8_keeps := goodIn_r _ [22, 23, 24, 3, 64, 65, 66, 67, 68, 69, 70, 71, 72, 73, 74, 75, 76, 77, 78, 79, 80, 81] (by decide +kernel) (by decide +kernel)
set_option maxRecDepth 20000 in
theorem gX8_setLimit_X8_keeps : GoodIn wsX8_setLimit (wsV RX8 179 RX8 yX8_keeps wsX8_keeps) := goodIn_app (goodIn_of _ (by decide +kernel)) ggX8_setLimit_X8_keeps
set_option maxRecDepth 20000 in
theorem ggX8_setLimit_X8_place : GoodIn wsX8_setLimit wsX8_place := goodIn_r _ [27] (by decide +kernel) (by decide +kernel)
set_option maxRecDepth 20000 in
theorem gX8_setLimit_X8_place : GoodIn wsX8_setLimit (va_wsS RX8 255 yX8_place wsX8_place) := goodIn_app (goodIn_of _ (by decide +kernel)) ggX8_setLimit_X8_place
set_option maxRecDepth 20000 in
theorem ggX8_setLimit_X8_setsClocks : GoodIn wsX8_setLimit wsX8_setsClocks := goodIn_r _ [31, 32, 3, 33, 34, 35, 6, 36, 25, 26, 27, 37, 38, 39, 40, 41, 42, 43, 64, 65, 66, 67, 68, 69, 70, 71, 72, 73, 74, 75, 76, 77, 78, 79, 80, 81] (by decide +kernel) (by decide +kernel)
set_option maxRecDepth 20000 in
theorem gX8_setLimit_X8_setsClocks : GoodIn wsX8_setLimit (wsV RX8 186 RX8 yX8_setsClocks wsX8_setsClocks) := goodIn_app (goodIn_of _ (by decide +kernel)) ggX8_setLimit_X8_setsClocks
set_option maxRecDepth 20000 in
theorem ggX8_setLimit_X8_stateOf : GoodIn wsX8_setLimit wsX8_stateOf := goodIn_r _ [47, 32, 48, 49, 50, 6, 51, 33, 34, 35, 36, 3, 25, 26, 27, 37, 38, 39, 40, 41, 42, 43, 52, 53, 54, 55, 56, 57, 58, 59, 60, 61, 62, 63, 64, 65, 66, 67, 68, 69, 70, 71, 72, 73, 74, 75, 76, 77, 78, 79, 80, 81] (by decide +kernel) (by decide +kernel)
set_option maxRecDepth 20000 in
theorem gX8_setLimit_X8_stateOf : GoodIn wsX8_setLimit (wsV RX8 334 RX8 yX8_stateOf wsX8_stateOf) := goodIn_app (goodIn_of _ (by decide +kernel)) ggX8_setLimit_X8_stateOf
theorem dX8_setLimit_0 : decode cX8_setLimit 0 = .ok (.iload_n 1, 1) := by decide +kernel
theorem dX8_setLimit_1 : decode cX8_setLimit 1 = .ok (.invokestatic 320, 3) := by decide +kernel
theorem dX8_setLimit_4 : decode cX8_setLimit 4 = .ok (.ifCond .eq 50, 3) := by decide +kernel
theorem dX8_setLimit_7 : decode cX8_setLimit 7 = .ok (.iload_n 2, 1) := by decide +kernel
theorem dX8_setLimit_8 : decode cX8_setLimit 8 = .ok (.invokestatic 323, 3) := by decide +kernel
theorem dX8_setLimit_11 : decode cX8_setLimit 11 = .ok (.ifCond .eq 43, 3) := by decide +kernel
theorem dX8_setLimit_14 : decode cX8_setLimit 14 = .ok (.iload_n 3, 1) := by decide +kernel
theorem dX8_setLimit_15 : decode cX8_setLimit 15 = .ok (.i2l, 1) := by decide +kernel
theorem dX8_setLimit_16 : decode cX8_setLimit 16 = .ok (.lconst 0, 1) := by decide +kernel
theorem dX8_setLimit_17 : decode cX8_setLimit 17 = .ok (.ldc2_w 329, 3) := by decide +kernel
theorem dX8_setLimit_20 : decode cX8_setLimit 20 = .ok (.invokestatic 59, 3) := by decide +kernel
theorem dX8_setLimit_23 : decode cX8_setLimit 23 = .ok (.ifCond .eq 31, 3) := by decide +kernel
theorem dX8_setLimit_26 : decode cX8_setLimit 26 = .ok (.iload 4, 2) := by decide +kernel
theorem dX8_setLimit_28 : decode cX8_setLimit 28 = .ok (.i2l, 1) := by decide +kernel
theorem dX8_setLimit_29 : decode cX8_setLimit 29 = .ok (.lconst 0, 1) := by decide +kernel
theorem dX8_setLimit_30 : decode cX8_setLimit 30 = .ok (.ldc2_w 329, 3) := by decide +kernel
theorem dX8_setLimit_33 : decode cX8_setLimit 33 = .ok (.invokestatic 59, 3) := by decide +kernel
theorem dX8_setLimit_36 : decode cX8_setLimit 36 = .ok (.ifCond .eq 18, 3) := by decide +kernel
theorem dX8_setLimit_39 : decode cX8_setLimit 39 = .ok (.iload 4, 2) := by decide +kernel
theorem dX8_setLimit_41 : decode cX8_setLimit 41 = .ok (.ifCond .eq 9, 3) := by decide +kernel
theorem dX8_setLimit_44 : decode cX8_setLimit 44 = .ok (.iload_n 3, 1) := by decide +kernel
theorem dX8_setLimit_45 : decode cX8_setLimit 45 = .ok (.iload 4, 2) := by decide +kernel
theorem dX8_setLimit_47 : decode cX8_setLimit 47 = .ok (.if_icmp .gt 7, 3) := by decide +kernel
theorem dX8_setLimit_50 : decode cX8_setLimit 50 = .ok (.iconst 1, 1) := by decide +kernel
theorem dX8_setLimit_51 : decode cX8_setLimit 51 = .ok (.goto 4, 3) := by decide +kernel
theorem dX8_setLimit_54 : decode cX8_setLimit 54 = .ok (.iconst 0, 1) := by decide +kernel
theorem dX8_setLimit_55 : decode cX8_setLimit 55 = .ok (.istore 5, 2) := by decide +kernel
theorem dX8_setLimit_57 : decode cX8_setLimit 57 = .ok (.aload_n 0, 1) := by decide +kernel
theorem dX8_setLimit_58 : decode cX8_setLimit 58 = .ok (.iload 5, 2) := by decide +kernel
theorem dX8_setLimit_60 : decode cX8_setLimit 60 = .ok (.ifCond .ne 7, 3) := by decide +kernel
theorem dX8_setLimit_63 : decode cX8_setLimit 63 = .ok (.iconst 1, 1) := by decide +kernel
theorem dX8_setLimit_64 : decode cX8_setLimit 64 = .ok (.goto 25, 3) := by decide +kernel
theorem dX8_setLimit_67 : decode cX8_setLimit 67 = .ok (.iload 4, 2) := by decide +kernel
theorem dX8_setLimit_69 : decode cX8_setLimit 69 = .ok (.ifCond .ne 19, 3) := by decide +kernel
theorem dX8_setLimit_72 : decode cX8_setLimit 72 = .ok (.iload_n 2, 1) := by decide +kernel
theorem dX8_setLimit_73 : decode cX8_setLimit 73 = .ok (.ifCond .ne 15, 3) := by decide +kernel
theorem dX8_setLimit_76 : decode cX8_setLimit 76 = .ok (.aload_n 0, 1) := by decide +kernel
theorem dX8_setLimit_77 : decode cX8_setLimit 77 = .ok (.iload_n 1, 1) := by decide +kernel
theorem dX8_setLimit_78 : decode cX8_setLimit 78 = .ok (.invokevirtual 331, 3) := by decide +kernel
theorem dX8_setLimit_81 : decode cX8_setLimit 81 = .ok (.ifCond .eq 7, 3) := by decide +kernel
theorem dX8_setLimit_84 : decode cX8_setLimit 84 = .ok (.iconst 2, 1) := by decide +kernel
theorem dX8_setLimit_85 : decode cX8_setLimit 85 = .ok (.goto 4, 3) := by decide +kernel
theorem dX8_setLimit_88 : decode cX8_setLimit 88 = .ok (.iconst 0, 1) := by decide +kernel
theorem dX8_setLimit_89 : decode cX8_setLimit 89 = .ok (.putfield 43, 3) := by decide +kernel
theorem dX8_setLimit_92 : decode cX8_setLimit 92 = .ok (.aload_n 0, 1) := by decide +kernel
theorem dX8_setLimit_93 : decode cX8_setLimit 93 = .ok (.getfield 43, 3) := by decide +kernel
theorem dX8_setLimit_96 : decode cX8_setLimit 96 = .ok (.ifCond .le 5, 3) := by decide +kernel
theorem dX8_setLimit_99 : decode cX8_setLimit 99 = .ok (.iconst 0, 1) := by decide +kernel
theorem dX8_setLimit_100 : decode cX8_setLimit 100 = .ok (.ireturn, 1) := by decide +kernel
theorem dX8_setLimit_101 : decode cX8_setLimit 101 = .ok (.aload_n 0, 1) := by decide +kernel
theorem dX8_setLimit_102 : decode cX8_setLimit 102 = .ok (.invokevirtual 179, 3) := by decide +kernel
theorem dX8_setLimit_105 : decode cX8_setLimit 105 = .ok (.aload_n 0, 1) := by decide +kernel
theorem dX8_setLimit_106 : decode cX8_setLimit 106 = .ok (.getfield 7, 3) := by decide +kernel
theorem dX8_setLimit_109 : decode cX8_setLimit 109 = .ok (.iconst 5, 1) := by decide +kernel
theorem dX8_setLimit_110 : decode cX8_setLimit 110 = .ok (.iload_n 1, 1) := by decide +kernel
theorem dX8_setLimit_111 : decode cX8_setLimit 111 = .ok (.iload_n 2, 1) := by decide +kernel
theorem dX8_setLimit_112 : decode cX8_setLimit 112 = .ok (.invokestatic 255, 3) := by decide +kernel
theorem dX8_setLimit_115 : decode cX8_setLimit 115 = .ok (.iadd, 1) := by decide +kernel
theorem dX8_setLimit_116 : decode cX8_setLimit 116 = .ok (.iload_n 3, 1) := by decide +kernel
theorem dX8_setLimit_117 : decode cX8_setLimit 117 = .ok (.i2l, 1) := by decide +kernel
theorem dX8_setLimit_118 : decode cX8_setLimit 118 = .ok (.lastore, 1) := by decide +kernel
theorem dX8_setLimit_119 : decode cX8_setLimit 119 = .ok (.aload_n 0, 1) := by decide +kernel
theorem dX8_setLimit_120 : decode cX8_setLimit 120 = .ok (.getfield 7, 3) := by decide +kernel
theorem dX8_setLimit_123 : decode cX8_setLimit 123 = .ok (.bipush 21, 2) := by decide +kernel
theorem dX8_setLimit_125 : decode cX8_setLimit 125 = .ok (.iload_n 1, 1) := by decide +kernel
theorem dX8_setLimit_126 : decode cX8_setLimit 126 = .ok (.iload_n 2, 1) := by decide +kernel
theorem dX8_setLimit_127 : decode cX8_setLimit 127 = .ok (.invokestatic 255, 3) := by decide +kernel
theorem dX8_setLimit_130 : decode cX8_setLimit 130 = .ok (.iadd, 1) := by decide +kernel
theorem dX8_setLimit_131 : decode cX8_setLimit 131 = .ok (.iload 4, 2) := by decide +kernel
theorem dX8_setLimit_133 : decode cX8_setLimit 133 = .ok (.i2l, 1) := by decide +kernel
theorem dX8_setLimit_134 : decode cX8_setLimit 134 = .ok (.lastore, 1) := by decide +kernel
theorem dX8_setLimit_135 : decode cX8_setLimit 135 = .ok (.aload_n 0, 1) := by decide +kernel
theorem dX8_setLimit_136 : decode cX8_setLimit 136 = .ok (.invokevirtual 186, 3) := by decide +kernel
theorem dX8_setLimit_139 : decode cX8_setLimit 139 = .ok (.aload_n 0, 1) := by decide +kernel
theorem dX8_setLimit_140 : decode cX8_setLimit 140 = .ok (.iload_n 1, 1) := by decide +kernel
theorem dX8_setLimit_141 : decode cX8_setLimit 141 = .ok (.iload_n 2, 1) := by decide +kernel
theorem dX8_setLimit_142 : decode cX8_setLimit 142 = .ok (.invokevirtual 334, 3) := by decide +kernel
theorem dX8_setLimit_145 : decode cX8_setLimit 145 = .ok (.ireturn, 1) := by decide +kernel
set_option maxRecDepth 20000 in
theorem ggX8_setGrace_X8_isIn : GoodIn wsX8_setGrace wsX8_isIn := goodIn_r _ [7] (by decide +kernel) (by decide +kernel)
set_option maxRecDepth 20000 in
theorem gX8_setGrace_X8_isIn : GoodIn wsX8_setGrace (va_wsS RX8 59 yX8_isIn wsX8_isIn) := goodIn_app (goodIn_of _ (by decide +kernel)) ggX8_setGrace_X8_isIn
set_option maxRecDepth 20000 in
theorem ggX8_setGrace_X8_keeps : GoodIn wsX8_setGrace wsX8_keeps := goodIn_r _ [11, 12, 13, 3, 33, 34, 35, 36, 37, 38, 39, 40, 41, 42, 43, 44, 45, 46, 47, 48, 49, 50] (by decide +kernel) (by decide +kernel)
set_option maxRecDepth 20000 in
theorem gX8_setGrace_X8_keeps : GoodIn wsX8_setGrace (wsV RX8 179 RX8 yX8_keeps wsX8_keeps) := goodIn_app (goodIn_of _ (by decide +kernel)) ggX8_setGrace_X8_keeps
set_option maxRecDepth 20000 in
theorem ggX8_setGrace_X8_setsClocks : GoodIn wsX8_setGrace wsX8_setsClocks := goodIn_r _ [17, 18, 3, 19, 20, 21, 6, 22, 23, 24, 25, 26, 27, 28, 29, 30, 31, 32, 33, 34, 35, 36, 37, 38, 39, 40, 41, 42, 43, 44, 45, 46, 47, 48, 49, 50] (by decide +kernel) (by decide +kernel)
set_option maxRecDepth 20000 in
theorem gX8_setGrace_X8_setsClocks : GoodIn wsX8_setGrace (wsV RX8 186 RX8 yX8_setsClocks wsX8_setsClocks) := goodIn_app (goodIn_of _ (by decide +kernel)) ggX8_setGrace_X8_setsClocks
theorem dX8_setGrace_0 : decode cX8_setGrace 0 = .ok (.aload_n 0, 1) := by decide +kernel
theorem dX8_setGrace_1 : decode cX8_setGrace 1 = .ok (.iload_n 1, 1) := by decide +kernel
theorem dX8_setGrace_2 : decode cX8_setGrace 2 = .ok (.i2l, 1) := by decide +kernel
theorem dX8_setGrace_3 : decode cX8_setGrace 3 = .ok (.lconst 1, 1) := by decide +kernel
theorem dX8_setGrace_4 : decode cX8_setGrace 4 = .ok (.ldc2_w 337, 3) := by decide +kernel
theorem dX8_setGrace_7 : decode cX8_setGrace 7 = .ok (.invokestatic 59, 3) := by decide +kernel
theorem dX8_setGrace_10 : decode cX8_setGrace 10 = .ok (.ifCond .eq 7, 3) := by decide +kernel
theorem dX8_setGrace_13 : decode cX8_setGrace 13 = .ok (.iconst 0, 1) := by decide +kernel
theorem dX8_setGrace_14 : decode cX8_setGrace 14 = .ok (.goto 4, 3) := by decide +kernel
theorem dX8_setGrace_17 : decode cX8_setGrace 17 = .ok (.iconst 1, 1) := by decide +kernel
theorem dX8_setGrace_18 : decode cX8_setGrace 18 = .ok (.putfield 43, 3) := by decide +kernel
theorem dX8_setGrace_21 : decode cX8_setGrace 21 = .ok (.aload_n 0, 1) := by decide +kernel
theorem dX8_setGrace_22 : decode cX8_setGrace 22 = .ok (.getfield 43, 3) := by decide +kernel
theorem dX8_setGrace_25 : decode cX8_setGrace 25 = .ok (.ifCond .le 5, 3) := by decide +kernel
theorem dX8_setGrace_28 : decode cX8_setGrace 28 = .ok (.iconst 0, 1) := by decide +kernel
theorem dX8_setGrace_29 : decode cX8_setGrace 29 = .ok (.ireturn, 1) := by decide +kernel
theorem dX8_setGrace_30 : decode cX8_setGrace 30 = .ok (.aload_n 0, 1) := by decide +kernel
theorem dX8_setGrace_31 : decode cX8_setGrace 31 = .ok (.invokevirtual 179, 3) := by decide +kernel
theorem dX8_setGrace_34 : decode cX8_setGrace 34 = .ok (.aload_n 0, 1) := by decide +kernel
theorem dX8_setGrace_35 : decode cX8_setGrace 35 = .ok (.getfield 7, 3) := by decide +kernel
theorem dX8_setGrace_38 : decode cX8_setGrace 38 = .ok (.iconst 1, 1) := by decide +kernel
theorem dX8_setGrace_39 : decode cX8_setGrace 39 = .ok (.laload, 1) := by decide +kernel
theorem dX8_setGrace_40 : decode cX8_setGrace 40 = .ok (.l2i, 1) := by decide +kernel
theorem dX8_setGrace_41 : decode cX8_setGrace 41 = .ok (.istore_n 2, 1) := by decide +kernel
theorem dX8_setGrace_42 : decode cX8_setGrace 42 = .ok (.aload_n 0, 1) := by decide +kernel
theorem dX8_setGrace_43 : decode cX8_setGrace 43 = .ok (.getfield 7, 3) := by decide +kernel
theorem dX8_setGrace_46 : decode cX8_setGrace 46 = .ok (.iconst 1, 1) := by decide +kernel
theorem dX8_setGrace_47 : decode cX8_setGrace 47 = .ok (.iload_n 1, 1) := by decide +kernel
theorem dX8_setGrace_48 : decode cX8_setGrace 48 = .ok (.i2l, 1) := by decide +kernel
theorem dX8_setGrace_49 : decode cX8_setGrace 49 = .ok (.lastore, 1) := by decide +kernel
theorem dX8_setGrace_50 : decode cX8_setGrace 50 = .ok (.aload_n 0, 1) := by decide +kernel
theorem dX8_setGrace_51 : decode cX8_setGrace 51 = .ok (.invokevirtual 186, 3) := by decide +kernel
theorem dX8_setGrace_54 : decode cX8_setGrace 54 = .ok (.iload_n 2, 1) := by decide +kernel
theorem dX8_setGrace_55 : decode cX8_setGrace 55 = .ok (.ireturn, 1) := by decide +kernel
set_option maxRecDepth 20000 in
theorem ggX8_tick_X8_isIn : GoodIn wsX8_tick wsX8_isIn := goodIn_r _ [8] (by decide +kernel) (by decide +kernel)
set_option maxRecDepth 20000 in
theorem gX8_tick_X8_isIn : GoodIn wsX8_tick (va_wsS RX8 59 yX8_isIn wsX8_isIn) := goodIn_app (goodIn_of _ (by decide +kernel)) ggX8_tick_X8_isIn
set_option maxRecDepth 20000 in
theorem ggX8_tick_X8_keeps : GoodIn wsX8_tick wsX8_keeps := goodIn_r _ [12, 13, 14, 2, 40, 41, 42, 43, 44, 45, 46, 47, 48, 49, 50, 51, 52, 53, 54, 55, 56, 57] (by decide +kernel) (by decide +kernel)
set_option maxRecDepth 20000 in
theorem gX8_tick_X8_keeps : GoodIn wsX8_tick (wsV RX8 179 RX8 yX8_keeps wsX8_keeps) := goodIn_app (goodIn_of _ (by decide +kernel)) ggX8_tick_X8_keeps
set_option maxRecDepth 20000 in
theorem ggX8_tick_X8_dropsGift : GoodIn wsX8_tick wsX8_dropsGift := goodIn_r _ [18, 2, 19, 20, 40, 41, 42, 43, 44, 45, 46, 47, 48, 49, 50, 51, 52, 53, 54, 55, 56, 57] (by decide +kernel) (by decide +kernel)
set_option maxRecDepth 20000 in
theorem gX8_tick_X8_dropsGift : GoodIn wsX8_tick (wsV RX8 345 RX8 yX8_dropsGift wsX8_dropsGift) := goodIn_app (goodIn_of _ (by decide +kernel)) ggX8_tick_X8_dropsGift
set_option maxRecDepth 20000 in
theorem ggX8_tick_X8_setsClocks : GoodIn wsX8_tick wsX8_setsClocks := goodIn_r _ [24, 25, 2, 26, 27, 28, 7, 29, 30, 31, 32, 33, 34, 35, 36, 37, 38, 39, 40, 41, 42, 43, 44, 45, 46, 47, 48, 49, 50, 51, 52, 53, 54, 55, 56, 57] (by decide +kernel) (by decide +kernel)
set_option maxRecDepth 20000 in
theorem gX8_tick_X8_setsClocks : GoodIn wsX8_tick (wsV RX8 186 RX8 yX8_setsClocks wsX8_setsClocks) := goodIn_app (goodIn_of _ (by decide +kernel)) ggX8_tick_X8_setsClocks
theorem dX8_tick_0 : decode cX8_tick 0 = .ok (.aload_n 0, 1) := by decide +kernel
theorem dX8_tick_1 : decode cX8_tick 1 = .ok (.iload_n 1, 1) := by decide +kernel
theorem dX8_tick_2 : decode cX8_tick 2 = .ok (.i2l, 1) := by decide +kernel
theorem dX8_tick_3 : decode cX8_tick 3 = .ok (.lconst 1, 1) := by decide +kernel
theorem dX8_tick_4 : decode cX8_tick 4 = .ok (.ldc2_w 343, 3) := by decide +kernel
theorem dX8_tick_7 : decode cX8_tick 7 = .ok (.invokestatic 59, 3) := by decide +kernel
theorem dX8_tick_10 : decode cX8_tick 10 = .ok (.ifCond .ne 7, 3) := by decide +kernel
theorem dX8_tick_13 : decode cX8_tick 13 = .ok (.iconst 1, 1) := by decide +kernel
theorem dX8_tick_14 : decode cX8_tick 14 = .ok (.goto 24, 3) := by decide +kernel
theorem dX8_tick_17 : decode cX8_tick 17 = .ok (.aload_n 0, 1) := by decide +kernel
theorem dX8_tick_18 : decode cX8_tick 18 = .ok (.getfield 7, 3) := by decide +kernel
theorem dX8_tick_21 : decode cX8_tick 21 = .ok (.iconst 0, 1) := by decide +kernel
theorem dX8_tick_22 : decode cX8_tick 22 = .ok (.laload, 1) := by decide +kernel
theorem dX8_tick_23 : decode cX8_tick 23 = .ok (.iload_n 1, 1) := by decide +kernel
theorem dX8_tick_24 : decode cX8_tick 24 = .ok (.i2l, 1) := by decide +kernel
theorem dX8_tick_25 : decode cX8_tick 25 = .ok (.ladd, 1) := by decide +kernel
theorem dX8_tick_26 : decode cX8_tick 26 = .ok (.ldc2_w 315, 3) := by decide +kernel
theorem dX8_tick_29 : decode cX8_tick 29 = .ok (.lcmp, 1) := by decide +kernel
theorem dX8_tick_30 : decode cX8_tick 30 = .ok (.ifCond .le 7, 3) := by decide +kernel
theorem dX8_tick_33 : decode cX8_tick 33 = .ok (.iconst 2, 1) := by decide +kernel
theorem dX8_tick_34 : decode cX8_tick 34 = .ok (.goto 4, 3) := by decide +kernel
theorem dX8_tick_37 : decode cX8_tick 37 = .ok (.iconst 0, 1) := by decide +kernel
theorem dX8_tick_38 : decode cX8_tick 38 = .ok (.putfield 43, 3) := by decide +kernel
theorem dX8_tick_41 : decode cX8_tick 41 = .ok (.aload_n 0, 1) := by decide +kernel
theorem dX8_tick_42 : decode cX8_tick 42 = .ok (.getfield 43, 3) := by decide +kernel
theorem dX8_tick_45 : decode cX8_tick 45 = .ok (.ifCond .le 5, 3) := by decide +kernel
theorem dX8_tick_48 : decode cX8_tick 48 = .ok (.iconst 0, 1) := by decide +kernel
theorem dX8_tick_49 : decode cX8_tick 49 = .ok (.ireturn, 1) := by decide +kernel
theorem dX8_tick_50 : decode cX8_tick 50 = .ok (.aload_n 0, 1) := by decide +kernel
theorem dX8_tick_51 : decode cX8_tick 51 = .ok (.invokevirtual 179, 3) := by decide +kernel
theorem dX8_tick_54 : decode cX8_tick 54 = .ok (.aload_n 0, 1) := by decide +kernel
theorem dX8_tick_55 : decode cX8_tick 55 = .ok (.getfield 7, 3) := by decide +kernel
theorem dX8_tick_58 : decode cX8_tick 58 = .ok (.iconst 0, 1) := by decide +kernel
theorem dX8_tick_59 : decode cX8_tick 59 = .ok (.dup2, 1) := by decide +kernel
theorem dX8_tick_60 : decode cX8_tick 60 = .ok (.laload, 1) := by decide +kernel
theorem dX8_tick_61 : decode cX8_tick 61 = .ok (.iload_n 1, 1) := by decide +kernel
theorem dX8_tick_62 : decode cX8_tick 62 = .ok (.i2l, 1) := by decide +kernel
theorem dX8_tick_63 : decode cX8_tick 63 = .ok (.ladd, 1) := by decide +kernel
theorem dX8_tick_64 : decode cX8_tick 64 = .ok (.lastore, 1) := by decide +kernel
theorem dX8_tick_65 : decode cX8_tick 65 = .ok (.iconst 0, 1) := by decide +kernel
theorem dX8_tick_66 : decode cX8_tick 66 = .ok (.istore_n 2, 1) := by decide +kernel
theorem dX8_tick_67 : decode cX8_tick 67 = .ok (.aload_n 0, 1) := by decide +kernel
theorem dX8_tick_68 : decode cX8_tick 68 = .ok (.getfield 7, 3) := by decide +kernel
theorem dX8_tick_71 : decode cX8_tick 71 = .ok (.iconst 4, 1) := by decide +kernel
theorem dX8_tick_72 : decode cX8_tick 72 = .ok (.laload, 1) := by decide +kernel
theorem dX8_tick_73 : decode cX8_tick 73 = .ok (.l2i, 1) := by decide +kernel
theorem dX8_tick_74 : decode cX8_tick 74 = .ok (.iconst 1, 1) := by decide +kernel
theorem dX8_tick_75 : decode cX8_tick 75 = .ok (.isub, 1) := by decide +kernel
theorem dX8_tick_76 : decode cX8_tick 76 = .ok (.istore_n 3, 1) := by decide +kernel
theorem dX8_tick_77 : decode cX8_tick 77 = .ok (.iload_n 3, 1) := by decide +kernel
theorem dX8_tick_78 : decode cX8_tick 78 = .ok (.ifCond .lt 44, 3) := by decide +kernel
theorem dX8_tick_81 : decode cX8_tick 81 = .ok (.aload_n 0, 1) := by decide +kernel
theorem dX8_tick_82 : decode cX8_tick 82 = .ok (.getfield 7, 3) := by decide +kernel
theorem dX8_tick_85 : decode cX8_tick 85 = .ok (.sipush 309, 3) := by decide +kernel
theorem dX8_tick_88 : decode cX8_tick 88 = .ok (.iconst 4, 1) := by decide +kernel
theorem dX8_tick_89 : decode cX8_tick 89 = .ok (.iload_n 3, 1) := by decide +kernel
theorem dX8_tick_90 : decode cX8_tick 90 = .ok (.imul, 1) := by decide +kernel
theorem dX8_tick_91 : decode cX8_tick 91 = .ok (.iadd, 1) := by decide +kernel
theorem dX8_tick_92 : decode cX8_tick 92 = .ok (.iconst 3, 1) := by decide +kernel
theorem dX8_tick_93 : decode cX8_tick 93 = .ok (.iadd, 1) := by decide +kernel
theorem dX8_tick_94 : decode cX8_tick 94 = .ok (.laload, 1) := by decide +kernel
theorem dX8_tick_95 : decode cX8_tick 95 = .ok (.aload_n 0, 1) := by decide +kernel
theorem dX8_tick_96 : decode cX8_tick 96 = .ok (.getfield 7, 3) := by decide +kernel
theorem dX8_tick_99 : decode cX8_tick 99 = .ok (.iconst 0, 1) := by decide +kernel
theorem dX8_tick_100 : decode cX8_tick 100 = .ok (.laload, 1) := by decide +kernel
theorem dX8_tick_101 : decode cX8_tick 101 = .ok (.lcmp, 1) := by decide +kernel
theorem dX8_tick_102 : decode cX8_tick 102 = .ok (.ifCond .le 6, 3) := by decide +kernel
theorem dX8_tick_105 : decode cX8_tick 105 = .ok (.goto 11, 3) := by decide +kernel
theorem dX8_tick_108 : decode cX8_tick 108 = .ok (.aload_n 0, 1) := by decide +kernel
theorem dX8_tick_109 : decode cX8_tick 109 = .ok (.iload_n 3, 1) := by decide +kernel
theorem dX8_tick_110 : decode cX8_tick 110 = .ok (.invokevirtual 345, 3) := by decide +kernel
theorem dX8_tick_113 : decode cX8_tick 113 = .ok (.iinc 2 1, 3) := by decide +kernel
theorem dX8_tick_116 : decode cX8_tick 116 = .ok (.iinc 3 (-1), 3) := by decide +kernel
theorem dX8_tick_119 : decode cX8_tick 119 = .ok (.goto (-42), 3) := by decide +kernel
theorem dX8_tick_122 : decode cX8_tick 122 = .ok (.aload_n 0, 1) := by decide +kernel
theorem dX8_tick_123 : decode cX8_tick 123 = .ok (.invokevirtual 186, 3) := by decide +kernel
theorem dX8_tick_126 : decode cX8_tick 126 = .ok (.iload_n 2, 1) := by decide +kernel
theorem dX8_tick_127 : decode cX8_tick 127 = .ok (.ireturn, 1) := by decide +kernel
set_option maxRecDepth 20000 in
theorem ggX8_gift_X8_isProject : GoodIn wsX8_gift wsX8_isProject := goodIn_r _ [8, 9, 10, 11, 7, 12] (by decide +kernel) (by decide +kernel)
set_option maxRecDepth 20000 in
theorem gX8_gift_X8_isProject : GoodIn wsX8_gift (va_wsS RX8 320 yX8_isProject wsX8_isProject) := goodIn_app (goodIn_of _ (by decide +kernel)) ggX8_gift_X8_isProject
set_option maxRecDepth 20000 in
theorem ggX8_gift_X8_isIn : GoodIn wsX8_gift wsX8_isIn := goodIn_r _ [12] (by decide +kernel) (by decide +kernel)
set_option maxRecDepth 20000 in
theorem gX8_gift_X8_isIn : GoodIn wsX8_gift (va_wsS RX8 59 yX8_isIn wsX8_isIn) := goodIn_app (goodIn_of _ (by decide +kernel)) ggX8_gift_X8_isIn
set_option maxRecDepth 20000 in
theorem ggX8_gift_X8_isRefused : GoodIn wsX8_gift wsX8_isRefused := goodIn_r _ [16, 17, 4, 18, 19, 20, 21, 7, 22, 23, 24, 25, 26, 27, 28, 29, 30, 31, 32, 33, 34, 35, 36, 47, 48, 49, 50, 51, 52, 53, 54, 55, 56, 57, 58, 59, 60, 61, 62, 63, 64] (by decide +kernel) (by decide +kernel)
set_option maxRecDepth 20000 in
theorem gX8_gift_X8_isRefused : GoodIn wsX8_gift (wsV RX8 353 RX8 yX8_isRefused wsX8_isRefused) := goodIn_app (goodIn_of _ (by decide +kernel)) ggX8_gift_X8_isRefused
set_option maxRecDepth 20000 in
theorem ggX8_gift_X8_keeps : GoodIn wsX8_gift wsX8_keeps := goodIn_r _ [40, 41, 42, 4, 47, 48, 49, 50, 51, 52, 53, 54, 55, 56, 57, 58, 59, 60, 61, 62, 63, 64] (by decide +kernel) (by decide +kernel)
set_option maxRecDepth 20000 in
theorem gX8_gift_X8_keeps : GoodIn wsX8_gift (wsV RX8 179 RX8 yX8_keeps wsX8_keeps) := goodIn_app (goodIn_of _ (by decide +kernel)) ggX8_gift_X8_keeps
set_option maxRecDepth 20000 in
theorem ggX8_gift_X8_setsClocks : GoodIn wsX8_gift wsX8_setsClocks := goodIn_r _ [46, 17, 4, 19, 20, 21, 7, 22, 23, 24, 25, 26, 27, 28, 29, 30, 31, 32, 47, 48, 49, 50, 51, 52, 53, 54, 55, 56, 57, 58, 59, 60, 61, 62, 63, 64] (by decide +kernel) (by decide +kernel)
set_option maxRecDepth 20000 in
theorem gX8_gift_X8_setsClocks : GoodIn wsX8_gift (wsV RX8 186 RX8 yX8_setsClocks wsX8_setsClocks) := goodIn_app (goodIn_of _ (by decide +kernel)) ggX8_gift_X8_setsClocks
theorem dX8_gift_0 : decode cX8_gift 0 = .ok (.iload_n 1, 1) := by decide +kernel
theorem dX8_gift_1 : decode cX8_gift 1 = .ok (.invokestatic 320, 3) := by decide +kernel
theorem dX8_gift_4 : decode cX8_gift 4 = .ok (.ifCond .eq 44, 3) := by decide +kernel
theorem dX8_gift_7 : decode cX8_gift 7 = .ok (.iload_n 2, 1) := by decide +kernel
theorem dX8_gift_8 : decode cX8_gift 8 = .ok (.invokestatic 320, 3) := by decide +kernel
theorem dX8_gift_11 : decode cX8_gift 11 = .ok (.ifCond .eq 37, 3) := by decide +kernel
theorem dX8_gift_14 : decode cX8_gift 14 = .ok (.iload_n 1, 1) := by decide +kernel
theorem dX8_gift_15 : decode cX8_gift 15 = .ok (.iload_n 2, 1) := by decide +kernel
theorem dX8_gift_16 : decode cX8_gift 16 = .ok (.if_icmp .eq 32, 3) := by decide +kernel
theorem dX8_gift_19 : decode cX8_gift 19 = .ok (.iload_n 3, 1) := by decide +kernel
theorem dX8_gift_20 : decode cX8_gift 20 = .ok (.i2l, 1) := by decide +kernel
theorem dX8_gift_21 : decode cX8_gift 21 = .ok (.lconst 1, 1) := by decide +kernel
theorem dX8_gift_22 : decode cX8_gift 22 = .ok (.ldc2_w 315, 3) := by decide +kernel
theorem dX8_gift_25 : decode cX8_gift 25 = .ok (.invokestatic 59, 3) := by decide +kernel
theorem dX8_gift_28 : decode cX8_gift 28 = .ok (.ifCond .eq 20, 3) := by decide +kernel
theorem dX8_gift_31 : decode cX8_gift 31 = .ok (.iload 4, 2) := by decide +kernel
theorem dX8_gift_33 : decode cX8_gift 33 = .ok (.i2l, 1) := by decide +kernel
theorem dX8_gift_34 : decode cX8_gift 34 = .ok (.lconst 1, 1) := by decide +kernel
theorem dX8_gift_35 : decode cX8_gift 35 = .ok (.ldc2_w 343, 3) := by decide +kernel
theorem dX8_gift_38 : decode cX8_gift 38 = .ok (.invokestatic 59, 3) := by decide +kernel
theorem dX8_gift_41 : decode cX8_gift 41 = .ok (.ifCond .eq 7, 3) := by decide +kernel
theorem dX8_gift_44 : decode cX8_gift 44 = .ok (.iconst 1, 1) := by decide +kernel
theorem dX8_gift_45 : decode cX8_gift 45 = .ok (.goto 4, 3) := by decide +kernel
theorem dX8_gift_48 : decode cX8_gift 48 = .ok (.iconst 0, 1) := by decide +kernel
theorem dX8_gift_49 : decode cX8_gift 49 = .ok (.istore 5, 2) := by decide +kernel
theorem dX8_gift_51 : decode cX8_gift 51 = .ok (.aload_n 0, 1) := by decide +kernel
theorem dX8_gift_52 : decode cX8_gift 52 = .ok (.iload 5, 2) := by decide +kernel
theorem dX8_gift_54 : decode cX8_gift 54 = .ok (.ifCond .ne 7, 3) := by decide +kernel
theorem dX8_gift_57 : decode cX8_gift 57 = .ok (.iconst 1, 1) := by decide +kernel
theorem dX8_gift_58 : decode cX8_gift 58 = .ok (.goto 18, 3) := by decide +kernel
theorem dX8_gift_61 : decode cX8_gift 61 = .ok (.aload_n 0, 1) := by decide +kernel
theorem dX8_gift_62 : decode cX8_gift 62 = .ok (.iload_n 1, 1) := by decide +kernel
theorem dX8_gift_63 : decode cX8_gift 63 = .ok (.iload_n 2, 1) := by decide +kernel
theorem dX8_gift_64 : decode cX8_gift 64 = .ok (.iload_n 3, 1) := by decide +kernel
theorem dX8_gift_65 : decode cX8_gift 65 = .ok (.invokevirtual 353, 3) := by decide +kernel
theorem dX8_gift_68 : decode cX8_gift 68 = .ok (.ifCond .eq 7, 3) := by decide +kernel
theorem dX8_gift_71 : decode cX8_gift 71 = .ok (.iconst 2, 1) := by decide +kernel
theorem dX8_gift_72 : decode cX8_gift 72 = .ok (.goto 4, 3) := by decide +kernel
theorem dX8_gift_75 : decode cX8_gift 75 = .ok (.iconst 0, 1) := by decide +kernel
theorem dX8_gift_76 : decode cX8_gift 76 = .ok (.putfield 43, 3) := by decide +kernel
theorem dX8_gift_79 : decode cX8_gift 79 = .ok (.aload_n 0, 1) := by decide +kernel
theorem dX8_gift_80 : decode cX8_gift 80 = .ok (.getfield 43, 3) := by decide +kernel
theorem dX8_gift_83 : decode cX8_gift 83 = .ok (.ifCond .le 5, 3) := by decide +kernel
theorem dX8_gift_86 : decode cX8_gift 86 = .ok (.iconst 0, 1) := by decide +kernel
theorem dX8_gift_87 : decode cX8_gift 87 = .ok (.ireturn, 1) := by decide +kernel
theorem dX8_gift_88 : decode cX8_gift 88 = .ok (.aload_n 0, 1) := by decide +kernel
theorem dX8_gift_89 : decode cX8_gift 89 = .ok (.invokevirtual 179, 3) := by decide +kernel
theorem dX8_gift_92 : decode cX8_gift 92 = .ok (.sipush 309, 3) := by decide +kernel
theorem dX8_gift_95 : decode cX8_gift 95 = .ok (.iconst 4, 1) := by decide +kernel
theorem dX8_gift_96 : decode cX8_gift 96 = .ok (.aload_n 0, 1) := by decide +kernel
theorem dX8_gift_97 : decode cX8_gift 97 = .ok (.getfield 7, 3) := by decide +kernel
theorem dX8_gift_100 : decode cX8_gift 100 = .ok (.iconst 4, 1) := by decide +kernel
theorem dX8_gift_101 : decode cX8_gift 101 = .ok (.laload, 1) := by decide +kernel
theorem dX8_gift_102 : decode cX8_gift 102 = .ok (.l2i, 1) := by decide +kernel
theorem dX8_gift_103 : decode cX8_gift 103 = .ok (.imul, 1) := by decide +kernel
theorem dX8_gift_104 : decode cX8_gift 104 = .ok (.iadd, 1) := by decide +kernel
theorem dX8_gift_105 : decode cX8_gift 105 = .ok (.istore 6, 2) := by decide +kernel
theorem dX8_gift_107 : decode cX8_gift 107 = .ok (.aload_n 0, 1) := by decide +kernel
theorem dX8_gift_108 : decode cX8_gift 108 = .ok (.getfield 7, 3) := by decide +kernel
theorem dX8_gift_111 : decode cX8_gift 111 = .ok (.iload 6, 2) := by decide +kernel
theorem dX8_gift_113 : decode cX8_gift 113 = .ok (.iconst 0, 1) := by decide +kernel
theorem dX8_gift_114 : decode cX8_gift 114 = .ok (.iadd, 1) := by decide +kernel
theorem dX8_gift_115 : decode cX8_gift 115 = .ok (.iload_n 1, 1) := by decide +kernel
theorem dX8_gift_116 : decode cX8_gift 116 = .ok (.i2l, 1) := by decide +kernel
theorem dX8_gift_117 : decode cX8_gift 117 = .ok (.lastore, 1) := by decide +kernel
theorem dX8_gift_118 : decode cX8_gift 118 = .ok (.aload_n 0, 1) := by decide +kernel
theorem dX8_gift_119 : decode cX8_gift 119 = .ok (.getfield 7, 3) := by decide +kernel
theorem dX8_gift_122 : decode cX8_gift 122 = .ok (.iload 6, 2) := by decide +kernel
theorem dX8_gift_124 : decode cX8_gift 124 = .ok (.iconst 1, 1) := by decide +kernel
theorem dX8_gift_125 : decode cX8_gift 125 = .ok (.iadd, 1) := by decide +kernel
theorem dX8_gift_126 : decode cX8_gift 126 = .ok (.iload_n 2, 1) := by decide +kernel
theorem dX8_gift_127 : decode cX8_gift 127 = .ok (.i2l, 1) := by decide +kernel
theorem dX8_gift_128 : decode cX8_gift 128 = .ok (.lastore, 1) := by decide +kernel
theorem dX8_gift_129 : decode cX8_gift 129 = .ok (.aload_n 0, 1) := by decide +kernel
theorem dX8_gift_130 : decode cX8_gift 130 = .ok (.getfield 7, 3) := by decide +kernel
theorem dX8_gift_133 : decode cX8_gift 133 = .ok (.iload 6, 2) := by decide +kernel
theorem dX8_gift_135 : decode cX8_gift 135 = .ok (.iconst 2, 1) := by decide +kernel
theorem dX8_gift_136 : decode cX8_gift 136 = .ok (.iadd, 1) := by decide +kernel
theorem dX8_gift_137 : decode cX8_gift 137 = .ok (.iload_n 3, 1) := by decide +kernel
theorem dX8_gift_138 : decode cX8_gift 138 = .ok (.i2l, 1) := by decide +kernel
theorem dX8_gift_139 : decode cX8_gift 139 = .ok (.lastore, 1) := by decide +kernel
theorem dX8_gift_140 : decode cX8_gift 140 = .ok (.aload_n 0, 1) := by decide +kernel
theorem dX8_gift_141 : decode cX8_gift 141 = .ok (.getfield 7, 3) := by decide +kernel
theorem dX8_gift_144 : decode cX8_gift 144 = .ok (.iload 6, 2) := by decide +kernel
theorem dX8_gift_146 : decode cX8_gift 146 = .ok (.iconst 3, 1) := by decide +kernel
theorem dX8_gift_147 : decode cX8_gift 147 = .ok (.iadd, 1) := by decide +kernel
theorem dX8_gift_148 : decode cX8_gift 148 = .ok (.aload_n 0, 1) := by decide +kernel
theorem dX8_gift_149 : decode cX8_gift 149 = .ok (.getfield 7, 3) := by decide +kernel
theorem dX8_gift_152 : decode cX8_gift 152 = .ok (.iconst 0, 1) := by decide +kernel
theorem dX8_gift_153 : decode cX8_gift 153 = .ok (.laload, 1) := by decide +kernel
theorem dX8_gift_154 : decode cX8_gift 154 = .ok (.iload 4, 2) := by decide +kernel
theorem dX8_gift_156 : decode cX8_gift 156 = .ok (.i2l, 1) := by decide +kernel
theorem dX8_gift_157 : decode cX8_gift 157 = .ok (.ladd, 1) := by decide +kernel
theorem dX8_gift_158 : decode cX8_gift 158 = .ok (.lastore, 1) := by decide +kernel
theorem dX8_gift_159 : decode cX8_gift 159 = .ok (.aload_n 0, 1) := by decide +kernel
theorem dX8_gift_160 : decode cX8_gift 160 = .ok (.getfield 7, 3) := by decide +kernel
theorem dX8_gift_163 : decode cX8_gift 163 = .ok (.iconst 4, 1) := by decide +kernel
theorem dX8_gift_164 : decode cX8_gift 164 = .ok (.dup2, 1) := by decide +kernel
theorem dX8_gift_165 : decode cX8_gift 165 = .ok (.laload, 1) := by decide +kernel
theorem dX8_gift_166 : decode cX8_gift 166 = .ok (.lconst 1, 1) := by decide +kernel
theorem dX8_gift_167 : decode cX8_gift 167 = .ok (.ladd, 1) := by decide +kernel
theorem dX8_gift_168 : decode cX8_gift 168 = .ok (.lastore, 1) := by decide +kernel
theorem dX8_gift_169 : decode cX8_gift 169 = .ok (.aload_n 0, 1) := by decide +kernel
theorem dX8_gift_170 : decode cX8_gift 170 = .ok (.invokevirtual 186, 3) := by decide +kernel
theorem dX8_gift_173 : decode cX8_gift 173 = .ok (.aload_n 0, 1) := by decide +kernel
theorem dX8_gift_174 : decode cX8_gift 174 = .ok (.getfield 7, 3) := by decide +kernel
theorem dX8_gift_177 : decode cX8_gift 177 = .ok (.iconst 4, 1) := by decide +kernel
theorem dX8_gift_178 : decode cX8_gift 178 = .ok (.laload, 1) := by decide +kernel
theorem dX8_gift_179 : decode cX8_gift 179 = .ok (.l2i, 1) := by decide +kernel
theorem dX8_gift_180 : decode cX8_gift 180 = .ok (.iconst 1, 1) := by decide +kernel
theorem dX8_gift_181 : decode cX8_gift 181 = .ok (.isub, 1) := by decide +kernel
theorem dX8_gift_182 : decode cX8_gift 182 = .ok (.ireturn, 1) := by decide +kernel
set_option maxRecDepth 20000 in
theorem ggX8_endGift_X8_isGift : GoodIn wsX8_endGift wsX8_isGift := goodIn_r _ [7, 2, 8, 9, 6, 10, 42, 43, 44, 45, 46, 47, 48, 49, 50, 51, 52, 53, 54, 55, 56, 57, 58, 59] (by decide +kernel) (by decide +kernel)
set_option maxRecDepth 20000 in
theorem gX8_endGift_X8_isGift : GoodIn wsX8_endGift (wsV RX8 357 RX8 yX8_isGift wsX8_isGift) := goodIn_app (goodIn_of _ (by decide +kernel)) ggX8_endGift_X8_isGift
set_option maxRecDepth 20000 in
theorem ggX8_endGift_X8_keeps : GoodIn wsX8_endGift wsX8_keeps := goodIn_r _ [14, 15, 16, 2, 42, 43, 44, 45, 46, 47, 48, 49, 50, 51, 52, 53, 54, 55, 56, 57, 58, 59] (by decide +kernel) (by decide +kernel)
set_option maxRecDepth 20000 in
theorem gX8_endGift_X8_keeps : GoodIn wsX8_endGift (wsV RX8 179 RX8 yX8_keeps wsX8_keeps) := goodIn_app (goodIn_of _ (by decide +kernel)) ggX8_endGift_X8_keeps
set_option maxRecDepth 20000 in
theorem ggX8_endGift_X8_dropsGift : GoodIn wsX8_endGift wsX8_dropsGift := goodIn_r _ [20, 2, 21, 22, 42, 43, 44, 45, 46, 47, 48, 49, 50, 51, 52, 53, 54, 55, 56, 57, 58, 59] (by decide +kernel) (by decide +kernel)
set_option maxRecDepth 20000 in
theorem gX8_endGift_X8_dropsGift : GoodIn wsX8_endGift (wsV RX8 345 RX8 yX8_dropsGift wsX8_dropsGift) := goodIn_app (goodIn_of _ (by decide +kernel)) ggX8_endGift_X8_dropsGift
set_option maxRecDepth 20000 in
theorem ggX8_endGift_X8_setsClocks : GoodIn wsX8_endGift wsX8_setsClocks := goodIn_r _ [26, 27, 2, 28, 29, 30, 6, 31, 32, 33, 34, 35, 36, 37, 38, 39, 40, 41, 42, 43, 44, 45, 46, 47, 48, 49, 50, 51, 52, 53, 54, 55, 56, 57, 58, 59] (by decide +kernel) (by decide +kernel)
set_option maxRecDepth 20000 in
theorem gX8_endGift_X8_setsClocks : GoodIn wsX8_endGift (wsV RX8 186 RX8 yX8_setsClocks wsX8_setsClocks) := goodIn_app (goodIn_of _ (by decide +kernel)) ggX8_endGift_X8_setsClocks
theorem dX8_endGift_0 : decode cX8_endGift 0 = .ok (.aload_n 0, 1) := by decide +kernel
theorem dX8_endGift_1 : decode cX8_endGift 1 = .ok (.aload_n 0, 1) := by decide +kernel
theorem dX8_endGift_2 : decode cX8_endGift 2 = .ok (.iload_n 1, 1) := by decide +kernel
theorem dX8_endGift_3 : decode cX8_endGift 3 = .ok (.invokevirtual 357, 3) := by decide +kernel
theorem dX8_endGift_6 : decode cX8_endGift 6 = .ok (.ifCond .eq 7, 3) := by decide +kernel
theorem dX8_endGift_9 : decode cX8_endGift 9 = .ok (.iconst 0, 1) := by decide +kernel
theorem dX8_endGift_10 : decode cX8_endGift 10 = .ok (.goto 4, 3) := by decide +kernel
theorem dX8_endGift_13 : decode cX8_endGift 13 = .ok (.iconst 1, 1) := by decide +kernel
theorem dX8_endGift_14 : decode cX8_endGift 14 = .ok (.putfield 43, 3) := by decide +kernel
theorem dX8_endGift_17 : decode cX8_endGift 17 = .ok (.aload_n 0, 1) := by decide +kernel
theorem dX8_endGift_18 : decode cX8_endGift 18 = .ok (.getfield 43, 3) := by decide +kernel
theorem dX8_endGift_21 : decode cX8_endGift 21 = .ok (.ifCond .le 5, 3) := by decide +kernel
theorem dX8_endGift_24 : decode cX8_endGift 24 = .ok (.iconst 0, 1) := by decide +kernel
theorem dX8_endGift_25 : decode cX8_endGift 25 = .ok (.ireturn, 1) := by decide +kernel
theorem dX8_endGift_26 : decode cX8_endGift 26 = .ok (.aload_n 0, 1) := by decide +kernel
theorem dX8_endGift_27 : decode cX8_endGift 27 = .ok (.invokevirtual 179, 3) := by decide +kernel
theorem dX8_endGift_30 : decode cX8_endGift 30 = .ok (.aload_n 0, 1) := by decide +kernel
theorem dX8_endGift_31 : decode cX8_endGift 31 = .ok (.iload_n 1, 1) := by decide +kernel
theorem dX8_endGift_32 : decode cX8_endGift 32 = .ok (.invokevirtual 345, 3) := by decide +kernel
theorem dX8_endGift_35 : decode cX8_endGift 35 = .ok (.aload_n 0, 1) := by decide +kernel
theorem dX8_endGift_36 : decode cX8_endGift 36 = .ok (.invokevirtual 186, 3) := by decide +kernel
theorem dX8_endGift_39 : decode cX8_endGift 39 = .ok (.aload_n 0, 1) := by decide +kernel
theorem dX8_endGift_40 : decode cX8_endGift 40 = .ok (.getfield 7, 3) := by decide +kernel
theorem dX8_endGift_43 : decode cX8_endGift 43 = .ok (.iconst 4, 1) := by decide +kernel
theorem dX8_endGift_44 : decode cX8_endGift 44 = .ok (.laload, 1) := by decide +kernel
theorem dX8_endGift_45 : decode cX8_endGift 45 = .ok (.l2i, 1) := by decide +kernel
theorem dX8_endGift_46 : decode cX8_endGift 46 = .ok (.ireturn, 1) := by decide +kernel
set_option maxRecDepth 20000 in
theorem ggX8_adjust_X8_lacks : GoodIn wsX8_adjust wsX8_lacks := goodIn_r _ [10, 4, 11, 12, 9, 13, 14, 15, 16, 17, 18, 19, 20, 50, 51, 52, 53, 54, 55, 56, 57, 58, 59, 60, 61, 62, 63, 64, 65, 66, 67] (by decide +kernel) (by decide +kernel)
set_option maxRecDepth 20000 in
theorem gX8_adjust_X8_lacks : GoodIn wsX8_adjust (wsV RX8 326 RX8 yX8_lacks wsX8_lacks) := goodIn_app (goodIn_of _ (by decide +kernel)) ggX8_adjust_X8_lacks
set_option maxRecDepth 20000 in
theorem ggX8_adjust_X8_usedOf : GoodIn wsX8_adjust wsX8_usedOf := goodIn_r _ [24, 5, 25, 26, 9, 27, 50, 51, 52, 53, 54, 55, 56, 57, 58, 59, 60, 61, 62, 63, 64, 65, 66, 67] (by decide +kernel) (by decide +kernel)
set_option maxRecDepth 20000 in
theorem gX8_adjust_X8_usedOf : GoodIn wsX8_adjust (wsV RX8 273 RX8 yX8_usedOf wsX8_usedOf) := goodIn_app (goodIn_of _ (by decide +kernel)) ggX8_adjust_X8_usedOf
set_option maxRecDepth 20000 in
theorem ggX8_adjust_X8_isIn : GoodIn wsX8_adjust wsX8_isIn := goodIn_r _ [17] (by decide +kernel) (by decide +kernel)
set_option maxRecDepth 20000 in
theorem gX8_adjust_X8_isIn : GoodIn wsX8_adjust (va_wsS RX8 59 yX8_isIn wsX8_isIn) := goodIn_app (goodIn_of _ (by decide +kernel)) ggX8_adjust_X8_isIn
set_option maxRecDepth 20000 in
theorem ggX8_adjust_X8_keeps : GoodIn wsX8_adjust wsX8_keeps := goodIn_r _ [31, 32, 33, 5, 50, 51, 52, 53, 54, 55, 56, 57, 58, 59, 60, 61, 62, 63, 64, 65, 66, 67] (by decide +kernel) (by decide +kernel)
set_option maxRecDepth 20000 in
theorem gX8_adjust_X8_keeps : GoodIn wsX8_adjust (wsV RX8 179 RX8 yX8_keeps wsX8_keeps) := goodIn_app (goodIn_of _ (by decide +kernel)) ggX8_adjust_X8_keeps
set_option maxRecDepth 20000 in
theorem ggX8_adjust_X8_place : GoodIn wsX8_adjust wsX8_place := goodIn_r _ [27] (by decide +kernel) (by decide +kernel)
set_option maxRecDepth 20000 in
theorem gX8_adjust_X8_place : GoodIn wsX8_adjust (va_wsS RX8 255 yX8_place wsX8_place) := goodIn_app (goodIn_of _ (by decide +kernel)) ggX8_adjust_X8_place
set_option maxRecDepth 20000 in
theorem ggX8_adjust_X8_setsClocks : GoodIn wsX8_adjust wsX8_setsClocks := goodIn_r _ [37, 38, 5, 39, 40, 41, 9, 42, 25, 26, 27, 43, 44, 45, 46, 47, 48, 49, 50, 51, 52, 53, 54, 55, 56, 57, 58, 59, 60, 61, 62, 63, 64, 65, 66, 67] (by decide +kernel) (by decide +kernel)
set_option maxRecDepth 20000 in
theorem gX8_adjust_X8_setsClocks : GoodIn wsX8_adjust (wsV RX8 186 RX8 yX8_setsClocks wsX8_setsClocks) := goodIn_app (goodIn_of _ (by decide +kernel)) ggX8_adjust_X8_setsClocks
theorem dX8_adjust_0 : decode cX8_adjust 0 = .ok (.aload_n 0, 1) := by decide +kernel
theorem dX8_adjust_1 : decode cX8_adjust 1 = .ok (.iload_n 1, 1) := by decide +kernel
theorem dX8_adjust_2 : decode cX8_adjust 2 = .ok (.iload_n 2, 1) := by decide +kernel
theorem dX8_adjust_3 : decode cX8_adjust 3 = .ok (.invokevirtual 326, 3) := by decide +kernel
theorem dX8_adjust_6 : decode cX8_adjust 6 = .ok (.ifCond .eq 5, 3) := by decide +kernel
theorem dX8_adjust_9 : decode cX8_adjust 9 = .ok (.iconst 0, 1) := by decide +kernel
theorem dX8_adjust_10 : decode cX8_adjust 10 = .ok (.ireturn, 1) := by decide +kernel
theorem dX8_adjust_11 : decode cX8_adjust 11 = .ok (.aload_n 0, 1) := by decide +kernel
theorem dX8_adjust_12 : decode cX8_adjust 12 = .ok (.iload_n 1, 1) := by decide +kernel
theorem dX8_adjust_13 : decode cX8_adjust 13 = .ok (.iload_n 2, 1) := by decide +kernel
theorem dX8_adjust_14 : decode cX8_adjust 14 = .ok (.invokevirtual 273, 3) := by decide +kernel
theorem dX8_adjust_17 : decode cX8_adjust 17 = .ok (.iload_n 3, 1) := by decide +kernel
theorem dX8_adjust_18 : decode cX8_adjust 18 = .ok (.i2l, 1) := by decide +kernel
theorem dX8_adjust_19 : decode cX8_adjust 19 = .ok (.ladd, 1) := by decide +kernel
theorem dX8_adjust_20 : decode cX8_adjust 20 = .ok (.lstore 4, 2) := by decide +kernel
theorem dX8_adjust_22 : decode cX8_adjust 22 = .ok (.aload_n 0, 1) := by decide +kernel
theorem dX8_adjust_23 : decode cX8_adjust 23 = .ok (.iload_n 3, 1) := by decide +kernel
theorem dX8_adjust_24 : decode cX8_adjust 24 = .ok (.i2l, 1) := by decide +kernel
theorem dX8_adjust_25 : decode cX8_adjust 25 = .ok (.ldc2_w 362, 3) := by decide +kernel
theorem dX8_adjust_28 : decode cX8_adjust 28 = .ok (.ldc2_w 315, 3) := by decide +kernel
theorem dX8_adjust_31 : decode cX8_adjust 31 = .ok (.invokestatic 59, 3) := by decide +kernel
theorem dX8_adjust_34 : decode cX8_adjust 34 = .ok (.ifCond .ne 7, 3) := by decide +kernel
theorem dX8_adjust_37 : decode cX8_adjust 37 = .ok (.iconst 1, 1) := by decide +kernel
theorem dX8_adjust_38 : decode cX8_adjust 38 = .ok (.goto 20, 3) := by decide +kernel
theorem dX8_adjust_41 : decode cX8_adjust 41 = .ok (.lload 4, 2) := by decide +kernel
theorem dX8_adjust_43 : decode cX8_adjust 43 = .ok (.lconst 0, 1) := by decide +kernel
theorem dX8_adjust_44 : decode cX8_adjust 44 = .ok (.ldc2_w 364, 3) := by decide +kernel
theorem dX8_adjust_47 : decode cX8_adjust 47 = .ok (.invokestatic 59, 3) := by decide +kernel
theorem dX8_adjust_50 : decode cX8_adjust 50 = .ok (.ifCond .eq 7, 3) := by decide +kernel
theorem dX8_adjust_53 : decode cX8_adjust 53 = .ok (.iconst 0, 1) := by decide +kernel
theorem dX8_adjust_54 : decode cX8_adjust 54 = .ok (.goto 4, 3) := by decide +kernel
theorem dX8_adjust_57 : decode cX8_adjust 57 = .ok (.iconst 2, 1) := by decide +kernel
theorem dX8_adjust_58 : decode cX8_adjust 58 = .ok (.putfield 43, 3) := by decide +kernel
theorem dX8_adjust_61 : decode cX8_adjust 61 = .ok (.aload_n 0, 1) := by decide +kernel
theorem dX8_adjust_62 : decode cX8_adjust 62 = .ok (.getfield 43, 3) := by decide +kernel
theorem dX8_adjust_65 : decode cX8_adjust 65 = .ok (.ifCond .le 5, 3) := by decide +kernel
theorem dX8_adjust_68 : decode cX8_adjust 68 = .ok (.iconst 0, 1) := by decide +kernel
theorem dX8_adjust_69 : decode cX8_adjust 69 = .ok (.ireturn, 1) := by decide +kernel
theorem dX8_adjust_70 : decode cX8_adjust 70 = .ok (.aload_n 0, 1) := by decide +kernel
theorem dX8_adjust_71 : decode cX8_adjust 71 = .ok (.invokevirtual 179, 3) := by decide +kernel
theorem dX8_adjust_74 : decode cX8_adjust 74 = .ok (.aload_n 0, 1) := by decide +kernel
theorem dX8_adjust_75 : decode cX8_adjust 75 = .ok (.getfield 7, 3) := by decide +kernel
theorem dX8_adjust_78 : decode cX8_adjust 78 = .ok (.bipush 37, 2) := by decide +kernel
theorem dX8_adjust_80 : decode cX8_adjust 80 = .ok (.iload_n 1, 1) := by decide +kernel
theorem dX8_adjust_81 : decode cX8_adjust 81 = .ok (.iload_n 2, 1) := by decide +kernel
theorem dX8_adjust_82 : decode cX8_adjust 82 = .ok (.invokestatic 255, 3) := by decide +kernel
theorem dX8_adjust_85 : decode cX8_adjust 85 = .ok (.iadd, 1) := by decide +kernel
theorem dX8_adjust_86 : decode cX8_adjust 86 = .ok (.lload 4, 2) := by decide +kernel
theorem dX8_adjust_88 : decode cX8_adjust 88 = .ok (.lastore, 1) := by decide +kernel
theorem dX8_adjust_89 : decode cX8_adjust 89 = .ok (.aload_n 0, 1) := by decide +kernel
theorem dX8_adjust_90 : decode cX8_adjust 90 = .ok (.invokevirtual 186, 3) := by decide +kernel
theorem dX8_adjust_93 : decode cX8_adjust 93 = .ok (.lload 4, 2) := by decide +kernel
theorem dX8_adjust_95 : decode cX8_adjust 95 = .ok (.l2i, 1) := by decide +kernel
theorem dX8_adjust_96 : decode cX8_adjust 96 = .ok (.ireturn, 1) := by decide +kernel
set_option maxRecDepth 20000 in
theorem ggX8_repair_X8_keeps : GoodIn wsX8_repair wsX8_keeps := goodIn_r _ [7, 8, 9, 2, 49, 50, 51, 52, 53, 54, 55, 56, 57, 58, 59, 60, 61, 62, 63, 64, 65, 66] (by decide +kernel) (by decide +kernel)
set_option maxRecDepth 20000 in
theorem gX8_repair_X8_keeps : GoodIn wsX8_repair (wsV RX8 179 RX8 yX8_keeps wsX8_keeps) := goodIn_app (goodIn_of _ (by decide +kernel)) ggX8_repair_X8_keeps
set_option maxRecDepth 20000 in
theorem ggX8_repair_X8_countedOf : GoodIn wsX8_repair wsX8_countedOf := goodIn_r _ [13, 2, 14, 15, 16, 6, 17, 18, 19, 20, 21, 22, 23, 24, 25, 26, 27, 28, 29, 49, 50, 51, 52, 53, 54, 55, 56, 57, 58, 59, 60, 61, 62, 63, 64, 65, 66] (by decide +kernel) (by decide +kernel)
set_option maxRecDepth 20000 in
theorem gX8_repair_X8_countedOf : GoodIn wsX8_repair (wsV RX8 182 RX8 yX8_countedOf wsX8_countedOf) := goodIn_app (goodIn_of _ (by decide +kernel)) ggX8_repair_X8_countedOf
set_option maxRecDepth 20000 in
theorem ggX8_repair_X8_setsClocks : GoodIn wsX8_repair wsX8_setsClocks := goodIn_r _ [33, 34, 2, 35, 36, 37, 6, 38, 39, 40, 41, 42, 43, 44, 45, 46, 47, 48, 49, 50, 51, 52, 53, 54, 55, 56, 57, 58, 59, 60, 61, 62, 63, 64, 65, 66] (by decide +kernel) (by decide +kernel)
set_option maxRecDepth 20000 in
theorem gX8_repair_X8_setsClocks : GoodIn wsX8_repair (wsV RX8 186 RX8 yX8_setsClocks wsX8_setsClocks) := goodIn_app (goodIn_of _ (by decide +kernel)) ggX8_repair_X8_setsClocks
theorem dX8_repair_0 : decode cX8_repair 0 = .ok (.aload_n 0, 1) := by decide +kernel
theorem dX8_repair_1 : decode cX8_repair 1 = .ok (.iconst 0, 1) := by decide +kernel
theorem dX8_repair_2 : decode cX8_repair 2 = .ok (.putfield 43, 3) := by decide +kernel
theorem dX8_repair_5 : decode cX8_repair 5 = .ok (.aload_n 0, 1) := by decide +kernel
theorem dX8_repair_6 : decode cX8_repair 6 = .ok (.invokevirtual 179, 3) := by decide +kernel
theorem dX8_repair_9 : decode cX8_repair 9 = .ok (.iconst 0, 1) := by decide +kernel
theorem dX8_repair_10 : decode cX8_repair 10 = .ok (.istore_n 1, 1) := by decide +kernel
theorem dX8_repair_11 : decode cX8_repair 11 = .ok (.iconst 0, 1) := by decide +kernel
theorem dX8_repair_12 : decode cX8_repair 12 = .ok (.istore_n 2, 1) := by decide +kernel
theorem dX8_repair_13 : decode cX8_repair 13 = .ok (.iload_n 2, 1) := by decide +kernel
theorem dX8_repair_14 : decode cX8_repair 14 = .ok (.bipush 16, 2) := by decide +kernel
theorem dX8_repair_16 : decode cX8_repair 16 = .ok (.if_icmp .ge 52, 3) := by decide +kernel
theorem dX8_repair_19 : decode cX8_repair 19 = .ok (.aload_n 0, 1) := by decide +kernel
theorem dX8_repair_20 : decode cX8_repair 20 = .ok (.iload_n 2, 1) := by decide +kernel
theorem dX8_repair_21 : decode cX8_repair 21 = .ok (.iconst 2, 1) := by decide +kernel
theorem dX8_repair_22 : decode cX8_repair 22 = .ok (.idiv, 1) := by decide +kernel
theorem dX8_repair_23 : decode cX8_repair 23 = .ok (.iload_n 2, 1) := by decide +kernel
theorem dX8_repair_24 : decode cX8_repair 24 = .ok (.iconst 2, 1) := by decide +kernel
theorem dX8_repair_25 : decode cX8_repair 25 = .ok (.irem, 1) := by decide +kernel
theorem dX8_repair_26 : decode cX8_repair 26 = .ok (.invokevirtual 182, 3) := by decide +kernel
theorem dX8_repair_29 : decode cX8_repair 29 = .ok (.lstore_n 3, 1) := by decide +kernel
theorem dX8_repair_30 : decode cX8_repair 30 = .ok (.iload_n 1, 1) := by decide +kernel
theorem dX8_repair_31 : decode cX8_repair 31 = .ok (.lload_n 3, 1) := by decide +kernel
theorem dX8_repair_32 : decode cX8_repair 32 = .ok (.aload_n 0, 1) := by decide +kernel
theorem dX8_repair_33 : decode cX8_repair 33 = .ok (.getfield 7, 3) := by decide +kernel
theorem dX8_repair_36 : decode cX8_repair 36 = .ok (.bipush 37, 2) := by decide +kernel
theorem dX8_repair_38 : decode cX8_repair 38 = .ok (.iload_n 2, 1) := by decide +kernel
theorem dX8_repair_39 : decode cX8_repair 39 = .ok (.iadd, 1) := by decide +kernel
theorem dX8_repair_40 : decode cX8_repair 40 = .ok (.laload, 1) := by decide +kernel
theorem dX8_repair_41 : decode cX8_repair 41 = .ok (.lcmp, 1) := by decide +kernel
theorem dX8_repair_42 : decode cX8_repair 42 = .ok (.ifCond .ne 7, 3) := by decide +kernel
theorem dX8_repair_45 : decode cX8_repair 45 = .ok (.iconst 0, 1) := by decide +kernel
theorem dX8_repair_46 : decode cX8_repair 46 = .ok (.goto 4, 3) := by decide +kernel
theorem dX8_repair_49 : decode cX8_repair 49 = .ok (.iconst 1, 1) := by decide +kernel
theorem dX8_repair_50 : decode cX8_repair 50 = .ok (.iadd, 1) := by decide +kernel
theorem dX8_repair_51 : decode cX8_repair 51 = .ok (.istore_n 1, 1) := by decide +kernel
theorem dX8_repair_52 : decode cX8_repair 52 = .ok (.aload_n 0, 1) := by decide +kernel
theorem dX8_repair_53 : decode cX8_repair 53 = .ok (.getfield 7, 3) := by decide +kernel
theorem dX8_repair_56 : decode cX8_repair 56 = .ok (.bipush 37, 2) := by decide +kernel
theorem dX8_repair_58 : decode cX8_repair 58 = .ok (.iload_n 2, 1) := by decide +kernel
theorem dX8_repair_59 : decode cX8_repair 59 = .ok (.iadd, 1) := by decide +kernel
theorem dX8_repair_60 : decode cX8_repair 60 = .ok (.lload_n 3, 1) := by decide +kernel
theorem dX8_repair_61 : decode cX8_repair 61 = .ok (.lastore, 1) := by decide +kernel
theorem dX8_repair_62 : decode cX8_repair 62 = .ok (.iinc 2 1, 3) := by decide +kernel
theorem dX8_repair_65 : decode cX8_repair 65 = .ok (.goto (-52), 3) := by decide +kernel
theorem dX8_repair_68 : decode cX8_repair 68 = .ok (.aload_n 0, 1) := by decide +kernel
theorem dX8_repair_69 : decode cX8_repair 69 = .ok (.invokevirtual 186, 3) := by decide +kernel
theorem dX8_repair_72 : decode cX8_repair 72 = .ok (.iload_n 1, 1) := by decide +kernel
theorem dX8_repair_73 : decode cX8_repair 73 = .ok (.ireturn, 1) := by decide +kernel
