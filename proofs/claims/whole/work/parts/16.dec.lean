theorem dX8_isIn_0 : decode cX8_isIn 0 = .ok (.lload_n 0, 1) := by decide +kernel
theorem dX8_isIn_1 : decode cX8_isIn 1 = .ok (.lload_n 2, 1) := by decide +kernel
theorem dX8_isIn_2 : decode cX8_isIn 2 = .ok (.lcmp, 1) := by decide +kernel
theorem dX8_isIn_3 : decode cX8_isIn 3 = .ok (.ifCond .lt 14, 3) := by decide +kernel
theorem dX8_isIn_6 : decode cX8_isIn 6 = .ok (.lload_n 0, 1) := by decide +kernel
theorem dX8_isIn_7 : decode cX8_isIn 7 = .ok (.lload 4, 2) := by decide +kernel
theorem dX8_isIn_9 : decode cX8_isIn 9 = .ok (.lcmp, 1) := by decide +kernel
theorem dX8_isIn_10 : decode cX8_isIn 10 = .ok (.ifCond .gt 7, 3) := by decide +kernel
theorem dX8_isIn_13 : decode cX8_isIn 13 = .ok (.iconst 1, 1) := by decide +kernel
theorem dX8_isIn_14 : decode cX8_isIn 14 = .ok (.goto 4, 3) := by decide +kernel
theorem dX8_isIn_17 : decode cX8_isIn 17 = .ok (.iconst 0, 1) := by decide +kernel
theorem dX8_isIn_18 : decode cX8_isIn 18 = .ok (.ireturn, 1) := by decide +kernel
theorem dX8_greater_0 : decode cX8_greater 0 = .ok (.lload_n 0, 1) := by decide +kernel
theorem dX8_greater_1 : decode cX8_greater 1 = .ok (.lload_n 2, 1) := by decide +kernel
theorem dX8_greater_2 : decode cX8_greater 2 = .ok (.lcmp, 1) := by decide +kernel
theorem dX8_greater_3 : decode cX8_greater 3 = .ok (.ifCond .le 7, 3) := by decide +kernel
theorem dX8_greater_6 : decode cX8_greater 6 = .ok (.lload_n 0, 1) := by decide +kernel
theorem dX8_greater_7 : decode cX8_greater 7 = .ok (.goto 4, 3) := by decide +kernel
theorem dX8_greater_10 : decode cX8_greater 10 = .ok (.lload_n 2, 1) := by decide +kernel
theorem dX8_greater_11 : decode cX8_greater 11 = .ok (.lreturn, 1) := by decide +kernel
set_option maxRecDepth 20000 in
theorem ggX8_isFolder_X8_isIn : GoodIn wsX8_isFolder wsX8_isIn := goodIn_r _ [5] (by decide +kernel) (by decide +kernel)
set_option maxRecDepth 20000 in
theorem gX8_isFolder_X8_isIn : GoodIn wsX8_isFolder (va_wsS RX8 59 yX8_isIn wsX8_isIn) := goodIn_app (goodIn_of _ (by decide +kernel)) ggX8_isFolder_X8_isIn
theorem dX8_isFolder_0 : decode cX8_isFolder 0 = .ok (.iload_n 1, 1) := by decide +kernel
theorem dX8_isFolder_1 : decode cX8_isFolder 1 = .ok (.i2l, 1) := by decide +kernel
theorem dX8_isFolder_2 : decode cX8_isFolder 2 = .ok (.lconst 0, 1) := by decide +kernel
theorem dX8_isFolder_3 : decode cX8_isFolder 3 = .ok (.aload_n 0, 1) := by decide +kernel
theorem dX8_isFolder_4 : decode cX8_isFolder 4 = .ok (.getfield 7, 3) := by decide +kernel
theorem dX8_isFolder_7 : decode cX8_isFolder 7 = .ok (.iconst 2, 1) := by decide +kernel
theorem dX8_isFolder_8 : decode cX8_isFolder 8 = .ok (.laload, 1) := by decide +kernel
theorem dX8_isFolder_9 : decode cX8_isFolder 9 = .ok (.lconst 1, 1) := by decide +kernel
theorem dX8_isFolder_10 : decode cX8_isFolder 10 = .ok (.lsub, 1) := by decide +kernel
theorem dX8_isFolder_11 : decode cX8_isFolder 11 = .ok (.invokestatic 59, 3) := by decide +kernel
theorem dX8_isFolder_14 : decode cX8_isFolder 14 = .ok (.ireturn, 1) := by decide +kernel
set_option maxRecDepth 20000 in
theorem ggX8_isFile_X8_isIn : GoodIn wsX8_isFile wsX8_isIn := goodIn_r _ [5] (by decide +kernel) (by decide +kernel)
set_option maxRecDepth 20000 in
theorem gX8_isFile_X8_isIn : GoodIn wsX8_isFile (va_wsS RX8 59 yX8_isIn wsX8_isIn) := goodIn_app (goodIn_of _ (by decide +kernel)) ggX8_isFile_X8_isIn
theorem dX8_isFile_0 : decode cX8_isFile 0 = .ok (.iload_n 1, 1) := by decide +kernel
theorem dX8_isFile_1 : decode cX8_isFile 1 = .ok (.i2l, 1) := by decide +kernel
theorem dX8_isFile_2 : decode cX8_isFile 2 = .ok (.lconst 0, 1) := by decide +kernel
theorem dX8_isFile_3 : decode cX8_isFile 3 = .ok (.aload_n 0, 1) := by decide +kernel
theorem dX8_isFile_4 : decode cX8_isFile 4 = .ok (.getfield 7, 3) := by decide +kernel
theorem dX8_isFile_7 : decode cX8_isFile 7 = .ok (.iconst 3, 1) := by decide +kernel
theorem dX8_isFile_8 : decode cX8_isFile 8 = .ok (.laload, 1) := by decide +kernel
theorem dX8_isFile_9 : decode cX8_isFile 9 = .ok (.lconst 1, 1) := by decide +kernel
theorem dX8_isFile_10 : decode cX8_isFile 10 = .ok (.lsub, 1) := by decide +kernel
theorem dX8_isFile_11 : decode cX8_isFile 11 = .ok (.invokestatic 59, 3) := by decide +kernel
theorem dX8_isFile_14 : decode cX8_isFile 14 = .ok (.ireturn, 1) := by decide +kernel
set_option maxRecDepth 20000 in
theorem ggX8_isProject_X8_isIn : GoodIn wsX8_isProject wsX8_isIn := goodIn_r _ [5] (by decide +kernel) (by decide +kernel)
set_option maxRecDepth 20000 in
theorem gX8_isProject_X8_isIn : GoodIn wsX8_isProject (va_wsS RX8 59 yX8_isIn wsX8_isIn) := goodIn_app (goodIn_of _ (by decide +kernel)) ggX8_isProject_X8_isIn
theorem dX8_isProject_0 : decode cX8_isProject 0 = .ok (.iload_n 0, 1) := by decide +kernel
theorem dX8_isProject_1 : decode cX8_isProject 1 = .ok (.i2l, 1) := by decide +kernel
theorem dX8_isProject_2 : decode cX8_isProject 2 = .ok (.lconst 0, 1) := by decide +kernel
theorem dX8_isProject_3 : decode cX8_isProject 3 = .ok (.ldc2_w 189, 3) := by decide +kernel
theorem dX8_isProject_6 : decode cX8_isProject 6 = .ok (.invokestatic 59, 3) := by decide +kernel
theorem dX8_isProject_9 : decode cX8_isProject 9 = .ok (.ireturn, 1) := by decide +kernel
set_option maxRecDepth 20000 in
theorem ggX8_isKind_X8_isIn : GoodIn wsX8_isKind wsX8_isIn := goodIn_r _ [4] (by decide +kernel) (by decide +kernel)
set_option maxRecDepth 20000 in
theorem gX8_isKind_X8_isIn : GoodIn wsX8_isKind (va_wsS RX8 59 yX8_isIn wsX8_isIn) := goodIn_app (goodIn_of _ (by decide +kernel)) ggX8_isKind_X8_isIn
theorem dX8_isKind_0 : decode cX8_isKind 0 = .ok (.iload_n 0, 1) := by decide +kernel
theorem dX8_isKind_1 : decode cX8_isKind 1 = .ok (.i2l, 1) := by decide +kernel
theorem dX8_isKind_2 : decode cX8_isKind 2 = .ok (.lconst 0, 1) := by decide +kernel
theorem dX8_isKind_3 : decode cX8_isKind 3 = .ok (.lconst 1, 1) := by decide +kernel
theorem dX8_isKind_4 : decode cX8_isKind 4 = .ok (.invokestatic 59, 3) := by decide +kernel
theorem dX8_isKind_7 : decode cX8_isKind 7 = .ok (.ireturn, 1) := by decide +kernel
theorem dX8_parentOf_0 : decode cX8_parentOf 0 = .ok (.aload_n 0, 1) := by decide +kernel
theorem dX8_parentOf_1 : decode cX8_parentOf 1 = .ok (.getfield 7, 3) := by decide +kernel
theorem dX8_parentOf_4 : decode cX8_parentOf 4 = .ok (.bipush 69, 2) := by decide +kernel
theorem dX8_parentOf_6 : decode cX8_parentOf 6 = .ok (.iload_n 1, 1) := by decide +kernel
theorem dX8_parentOf_7 : decode cX8_parentOf 7 = .ok (.iadd, 1) := by decide +kernel
theorem dX8_parentOf_8 : decode cX8_parentOf 8 = .ok (.laload, 1) := by decide +kernel
theorem dX8_parentOf_9 : decode cX8_parentOf 9 = .ok (.l2i, 1) := by decide +kernel
theorem dX8_parentOf_10 : decode cX8_parentOf 10 = .ok (.ireturn, 1) := by decide +kernel
theorem dX8_tagOf_0 : decode cX8_tagOf 0 = .ok (.aload_n 0, 1) := by decide +kernel
theorem dX8_tagOf_1 : decode cX8_tagOf 1 = .ok (.getfield 7, 3) := by decide +kernel
theorem dX8_tagOf_4 : decode cX8_tagOf 4 = .ok (.bipush 109, 2) := by decide +kernel
theorem dX8_tagOf_6 : decode cX8_tagOf 6 = .ok (.iload_n 1, 1) := by decide +kernel
theorem dX8_tagOf_7 : decode cX8_tagOf 7 = .ok (.iadd, 1) := by decide +kernel
theorem dX8_tagOf_8 : decode cX8_tagOf 8 = .ok (.laload, 1) := by decide +kernel
theorem dX8_tagOf_9 : decode cX8_tagOf 9 = .ok (.l2i, 1) := by decide +kernel
theorem dX8_tagOf_10 : decode cX8_tagOf 10 = .ok (.ireturn, 1) := by decide +kernel
set_option maxRecDepth 20000 in
theorem ggX8_projectOf_X8_tagOf : GoodIn wsX8_projectOf wsX8_tagOf := goodIn_r _ [5, 6, 11, 12, 13, 14, 15, 16, 17, 18, 19, 20, 21, 22, 23, 24, 25, 26, 27, 28] (by decide +kernel) (by decide +kernel)
set_option maxRecDepth 20000 in
theorem gX8_projectOf_X8_tagOf : GoodIn wsX8_projectOf (wsV RX8 191 RX8 yX8_tagOf wsX8_tagOf) := goodIn_app (goodIn_of _ (by decide +kernel)) ggX8_projectOf_X8_tagOf
set_option maxRecDepth 20000 in
theorem ggX8_projectOf_X8_parentOf : GoodIn wsX8_projectOf wsX8_parentOf := goodIn_r _ [10, 6, 11, 12, 13, 14, 15, 16, 17, 18, 19, 20, 21, 22, 23, 24, 25, 26, 27, 28] (by decide +kernel) (by decide +kernel)
set_option maxRecDepth 20000 in
theorem gX8_projectOf_X8_parentOf : GoodIn wsX8_projectOf (wsV RX8 194 RX8 yX8_parentOf wsX8_parentOf) := goodIn_app (goodIn_of _ (by decide +kernel)) ggX8_projectOf_X8_parentOf
theorem dX8_projectOf_0 : decode cX8_projectOf 0 = .ok (.iload_n 1, 1) := by decide +kernel
theorem dX8_projectOf_1 : decode cX8_projectOf 1 = .ok (.istore_n 2, 1) := by decide +kernel
theorem dX8_projectOf_2 : decode cX8_projectOf 2 = .ok (.iload_n 2, 1) := by decide +kernel
theorem dX8_projectOf_3 : decode cX8_projectOf 3 = .ok (.iconst (-1), 1) := by decide +kernel
theorem dX8_projectOf_4 : decode cX8_projectOf 4 = .ok (.if_icmp .eq 21, 3) := by decide +kernel
theorem dX8_projectOf_7 : decode cX8_projectOf 7 = .ok (.aload_n 0, 1) := by decide +kernel
theorem dX8_projectOf_8 : decode cX8_projectOf 8 = .ok (.iload_n 2, 1) := by decide +kernel
theorem dX8_projectOf_9 : decode cX8_projectOf 9 = .ok (.invokevirtual 191, 3) := by decide +kernel
theorem dX8_projectOf_12 : decode cX8_projectOf 12 = .ok (.iconst (-1), 1) := by decide +kernel
theorem dX8_projectOf_13 : decode cX8_projectOf 13 = .ok (.if_icmp .ne 12, 3) := by decide +kernel
theorem dX8_projectOf_16 : decode cX8_projectOf 16 = .ok (.aload_n 0, 1) := by decide +kernel
theorem dX8_projectOf_17 : decode cX8_projectOf 17 = .ok (.iload_n 2, 1) := by decide +kernel
theorem dX8_projectOf_18 : decode cX8_projectOf 18 = .ok (.invokevirtual 194, 3) := by decide +kernel
theorem dX8_projectOf_21 : decode cX8_projectOf 21 = .ok (.istore_n 2, 1) := by decide +kernel
theorem dX8_projectOf_22 : decode cX8_projectOf 22 = .ok (.goto (-20), 3) := by decide +kernel
theorem dX8_projectOf_25 : decode cX8_projectOf 25 = .ok (.iload_n 2, 1) := by decide +kernel
theorem dX8_projectOf_26 : decode cX8_projectOf 26 = .ok (.iconst (-1), 1) := by decide +kernel
theorem dX8_projectOf_27 : decode cX8_projectOf 27 = .ok (.if_icmp .ne 7, 3) := by decide +kernel
theorem dX8_projectOf_30 : decode cX8_projectOf 30 = .ok (.iconst (-1), 1) := by decide +kernel
theorem dX8_projectOf_31 : decode cX8_projectOf 31 = .ok (.goto 8, 3) := by decide +kernel
theorem dX8_projectOf_34 : decode cX8_projectOf 34 = .ok (.aload_n 0, 1) := by decide +kernel
theorem dX8_projectOf_35 : decode cX8_projectOf 35 = .ok (.iload_n 2, 1) := by decide +kernel
theorem dX8_projectOf_36 : decode cX8_projectOf 36 = .ok (.invokevirtual 191, 3) := by decide +kernel
theorem dX8_projectOf_39 : decode cX8_projectOf 39 = .ok (.ireturn, 1) := by decide +kernel
theorem dX8_folderOf_0 : decode cX8_folderOf 0 = .ok (.aload_n 0, 1) := by decide +kernel
theorem dX8_folderOf_1 : decode cX8_folderOf 1 = .ok (.getfield 7, 3) := by decide +kernel
theorem dX8_folderOf_4 : decode cX8_folderOf 4 = .ok (.sipush 189, 3) := by decide +kernel
theorem dX8_folderOf_7 : decode cX8_folderOf 7 = .ok (.iload_n 1, 1) := by decide +kernel
theorem dX8_folderOf_8 : decode cX8_folderOf 8 = .ok (.iadd, 1) := by decide +kernel
theorem dX8_folderOf_9 : decode cX8_folderOf 9 = .ok (.laload, 1) := by decide +kernel
theorem dX8_folderOf_10 : decode cX8_folderOf 10 = .ok (.l2i, 1) := by decide +kernel
theorem dX8_folderOf_11 : decode cX8_folderOf 11 = .ok (.ireturn, 1) := by decide +kernel
set_option maxRecDepth 20000 in
theorem ggX8_isBelow_X8_parentOf : GoodIn wsX8_isBelow wsX8_parentOf := goodIn_r _ [5, 6, 7, 8, 9, 10, 11, 12, 13, 14, 15, 16, 17, 18, 19, 20, 21, 22, 23, 24] (by decide +kernel) (by decide +kernel)
set_option maxRecDepth 20000 in
theorem gX8_isBelow_X8_parentOf : GoodIn wsX8_isBelow (wsV RX8 194 RX8 yX8_parentOf wsX8_parentOf) := goodIn_app (goodIn_of _ (by decide +kernel)) ggX8_isBelow_X8_parentOf
theorem dX8_isBelow_0 : decode cX8_isBelow 0 = .ok (.iload_n 1, 1) := by decide +kernel
theorem dX8_isBelow_1 : decode cX8_isBelow 1 = .ok (.istore_n 3, 1) := by decide +kernel
theorem dX8_isBelow_2 : decode cX8_isBelow 2 = .ok (.iload_n 3, 1) := by decide +kernel
theorem dX8_isBelow_3 : decode cX8_isBelow 3 = .ok (.iconst (-1), 1) := by decide +kernel
theorem dX8_isBelow_4 : decode cX8_isBelow 4 = .ok (.if_icmp .eq 17, 3) := by decide +kernel
theorem dX8_isBelow_7 : decode cX8_isBelow 7 = .ok (.iload_n 3, 1) := by decide +kernel
theorem dX8_isBelow_8 : decode cX8_isBelow 8 = .ok (.iload_n 2, 1) := by decide +kernel
theorem dX8_isBelow_9 : decode cX8_isBelow 9 = .ok (.if_icmp .eq 12, 3) := by decide +kernel
theorem dX8_isBelow_12 : decode cX8_isBelow 12 = .ok (.aload_n 0, 1) := by decide +kernel
theorem dX8_isBelow_13 : decode cX8_isBelow 13 = .ok (.iload_n 3, 1) := by decide +kernel
theorem dX8_isBelow_14 : decode cX8_isBelow 14 = .ok (.invokevirtual 194, 3) := by decide +kernel
theorem dX8_isBelow_17 : decode cX8_isBelow 17 = .ok (.istore_n 3, 1) := by decide +kernel
theorem dX8_isBelow_18 : decode cX8_isBelow 18 = .ok (.goto (-16), 3) := by decide +kernel
theorem dX8_isBelow_21 : decode cX8_isBelow 21 = .ok (.iload_n 3, 1) := by decide +kernel
theorem dX8_isBelow_22 : decode cX8_isBelow 22 = .ok (.iload_n 2, 1) := by decide +kernel
theorem dX8_isBelow_23 : decode cX8_isBelow 23 = .ok (.if_icmp .ne 7, 3) := by decide +kernel
theorem dX8_isBelow_26 : decode cX8_isBelow 26 = .ok (.iconst 1, 1) := by decide +kernel
theorem dX8_isBelow_27 : decode cX8_isBelow 27 = .ok (.goto 4, 3) := by decide +kernel
theorem dX8_isBelow_30 : decode cX8_isBelow 30 = .ok (.iconst 0, 1) := by decide +kernel
theorem dX8_isBelow_31 : decode cX8_isBelow 31 = .ok (.ireturn, 1) := by decide +kernel
set_option maxRecDepth 20000 in
theorem ggX8_isOpenTo_X8_tagOf : GoodIn wsX8_isOpenTo wsX8_tagOf := goodIn_r _ [5, 6, 11, 12, 13, 14, 15, 16, 17, 18, 19, 20, 21, 22, 23, 24, 25, 26, 27, 28] (by decide +kernel) (by decide +kernel)
set_option maxRecDepth 20000 in
theorem gX8_isOpenTo_X8_tagOf : GoodIn wsX8_isOpenTo (wsV RX8 191 RX8 yX8_tagOf wsX8_tagOf) := goodIn_app (goodIn_of _ (by decide +kernel)) ggX8_isOpenTo_X8_tagOf
set_option maxRecDepth 20000 in
theorem ggX8_isOpenTo_X8_parentOf : GoodIn wsX8_isOpenTo wsX8_parentOf := goodIn_r _ [10, 6, 11, 12, 13, 14, 15, 16, 17, 18, 19, 20, 21, 22, 23, 24, 25, 26, 27, 28] (by decide +kernel) (by decide +kernel)
set_option maxRecDepth 20000 in
theorem gX8_isOpenTo_X8_parentOf : GoodIn wsX8_isOpenTo (wsV RX8 194 RX8 yX8_parentOf wsX8_parentOf) := goodIn_app (goodIn_of _ (by decide +kernel)) ggX8_isOpenTo_X8_parentOf
theorem dX8_isOpenTo_0 : decode cX8_isOpenTo 0 = .ok (.iload_n 1, 1) := by decide +kernel
theorem dX8_isOpenTo_1 : decode cX8_isOpenTo 1 = .ok (.istore_n 3, 1) := by decide +kernel
theorem dX8_isOpenTo_2 : decode cX8_isOpenTo 2 = .ok (.iload_n 3, 1) := by decide +kernel
theorem dX8_isOpenTo_3 : decode cX8_isOpenTo 3 = .ok (.iconst (-1), 1) := by decide +kernel
theorem dX8_isOpenTo_4 : decode cX8_isOpenTo 4 = .ok (.if_icmp .eq 26, 3) := by decide +kernel
theorem dX8_isOpenTo_7 : decode cX8_isOpenTo 7 = .ok (.iload_n 3, 1) := by decide +kernel
theorem dX8_isOpenTo_8 : decode cX8_isOpenTo 8 = .ok (.iload_n 2, 1) := by decide +kernel
theorem dX8_isOpenTo_9 : decode cX8_isOpenTo 9 = .ok (.if_icmp .eq 21, 3) := by decide +kernel
theorem dX8_isOpenTo_12 : decode cX8_isOpenTo 12 = .ok (.aload_n 0, 1) := by decide +kernel
theorem dX8_isOpenTo_13 : decode cX8_isOpenTo 13 = .ok (.iload_n 3, 1) := by decide +kernel
theorem dX8_isOpenTo_14 : decode cX8_isOpenTo 14 = .ok (.invokevirtual 191, 3) := by decide +kernel
theorem dX8_isOpenTo_17 : decode cX8_isOpenTo 17 = .ok (.iconst (-1), 1) := by decide +kernel
theorem dX8_isOpenTo_18 : decode cX8_isOpenTo 18 = .ok (.if_icmp .ne 12, 3) := by decide +kernel
theorem dX8_isOpenTo_21 : decode cX8_isOpenTo 21 = .ok (.aload_n 0, 1) := by decide +kernel
theorem dX8_isOpenTo_22 : decode cX8_isOpenTo 22 = .ok (.iload_n 3, 1) := by decide +kernel
theorem dX8_isOpenTo_23 : decode cX8_isOpenTo 23 = .ok (.invokevirtual 194, 3) := by decide +kernel
theorem dX8_isOpenTo_26 : decode cX8_isOpenTo 26 = .ok (.istore_n 3, 1) := by decide +kernel
theorem dX8_isOpenTo_27 : decode cX8_isOpenTo 27 = .ok (.goto (-25), 3) := by decide +kernel
theorem dX8_isOpenTo_30 : decode cX8_isOpenTo 30 = .ok (.iload_n 3, 1) := by decide +kernel
theorem dX8_isOpenTo_31 : decode cX8_isOpenTo 31 = .ok (.iload_n 2, 1) := by decide +kernel
theorem dX8_isOpenTo_32 : decode cX8_isOpenTo 32 = .ok (.if_icmp .ne 7, 3) := by decide +kernel
theorem dX8_isOpenTo_35 : decode cX8_isOpenTo 35 = .ok (.iconst 1, 1) := by decide +kernel
theorem dX8_isOpenTo_36 : decode cX8_isOpenTo 36 = .ok (.goto 4, 3) := by decide +kernel
theorem dX8_isOpenTo_39 : decode cX8_isOpenTo 39 = .ok (.iconst 0, 1) := by decide +kernel
theorem dX8_isOpenTo_40 : decode cX8_isOpenTo 40 = .ok (.ireturn, 1) := by decide +kernel
set_option maxRecDepth 20000 in
theorem ggX8_depthOf_X8_parentOf : GoodIn wsX8_depthOf wsX8_parentOf := goodIn_r _ [5, 6, 7, 8, 9, 10, 11, 12, 13, 14, 15, 16, 17, 18, 19, 20, 21, 22, 23, 24] (by decide +kernel) (by decide +kernel)
set_option maxRecDepth 20000 in
theorem gX8_depthOf_X8_parentOf : GoodIn wsX8_depthOf (wsV RX8 194 RX8 yX8_parentOf wsX8_parentOf) := goodIn_app (goodIn_of _ (by decide +kernel)) ggX8_depthOf_X8_parentOf
theorem dX8_depthOf_0 : decode cX8_depthOf 0 = .ok (.iconst 0, 1) := by decide +kernel
theorem dX8_depthOf_1 : decode cX8_depthOf 1 = .ok (.istore_n 2, 1) := by decide +kernel
theorem dX8_depthOf_2 : decode cX8_depthOf 2 = .ok (.aload_n 0, 1) := by decide +kernel
theorem dX8_depthOf_3 : decode cX8_depthOf 3 = .ok (.iload_n 1, 1) := by decide +kernel
theorem dX8_depthOf_4 : decode cX8_depthOf 4 = .ok (.invokevirtual 194, 3) := by decide +kernel
theorem dX8_depthOf_7 : decode cX8_depthOf 7 = .ok (.istore_n 3, 1) := by decide +kernel
theorem dX8_depthOf_8 : decode cX8_depthOf 8 = .ok (.iload_n 3, 1) := by decide +kernel
theorem dX8_depthOf_9 : decode cX8_depthOf 9 = .ok (.iconst (-1), 1) := by decide +kernel
theorem dX8_depthOf_10 : decode cX8_depthOf 10 = .ok (.if_icmp .eq 15, 3) := by decide +kernel
theorem dX8_depthOf_13 : decode cX8_depthOf 13 = .ok (.iinc 2 1, 3) := by decide +kernel
theorem dX8_depthOf_16 : decode cX8_depthOf 16 = .ok (.aload_n 0, 1) := by decide +kernel
theorem dX8_depthOf_17 : decode cX8_depthOf 17 = .ok (.iload_n 3, 1) := by decide +kernel
theorem dX8_depthOf_18 : decode cX8_depthOf 18 = .ok (.invokevirtual 194, 3) := by decide +kernel
theorem dX8_depthOf_21 : decode cX8_depthOf 21 = .ok (.istore_n 3, 1) := by decide +kernel
theorem dX8_depthOf_22 : decode cX8_depthOf 22 = .ok (.goto (-14), 3) := by decide +kernel
theorem dX8_depthOf_25 : decode cX8_depthOf 25 = .ok (.iload_n 2, 1) := by decide +kernel
theorem dX8_depthOf_26 : decode cX8_depthOf 26 = .ok (.ireturn, 1) := by decide +kernel
theorem dX8_place_0 : decode cX8_place 0 = .ok (.iconst 2, 1) := by decide +kernel
theorem dX8_place_1 : decode cX8_place 1 = .ok (.iload_n 0, 1) := by decide +kernel
theorem dX8_place_2 : decode cX8_place 2 = .ok (.imul, 1) := by decide +kernel
theorem dX8_place_3 : decode cX8_place 3 = .ok (.iload_n 1, 1) := by decide +kernel
theorem dX8_place_4 : decode cX8_place 4 = .ok (.iadd, 1) := by decide +kernel
theorem dX8_place_5 : decode cX8_place 5 = .ok (.ireturn, 1) := by decide +kernel
set_option maxRecDepth 20000 in
theorem ggX8_isGift_X8_isIn : GoodIn wsX8_isGift wsX8_isIn := goodIn_r _ [5] (by decide +kernel) (by decide +kernel)
set_option maxRecDepth 20000 in
theorem gX8_isGift_X8_isIn : GoodIn wsX8_isGift (va_wsS RX8 59 yX8_isIn wsX8_isIn) := goodIn_app (goodIn_of _ (by decide +kernel)) ggX8_isGift_X8_isIn
theorem dX8_isGift_0 : decode cX8_isGift 0 = .ok (.iload_n 1, 1) := by decide +kernel
theorem dX8_isGift_1 : decode cX8_isGift 1 = .ok (.i2l, 1) := by decide +kernel
theorem dX8_isGift_2 : decode cX8_isGift 2 = .ok (.lconst 0, 1) := by decide +kernel
theorem dX8_isGift_3 : decode cX8_isGift 3 = .ok (.aload_n 0, 1) := by decide +kernel
theorem dX8_isGift_4 : decode cX8_isGift 4 = .ok (.getfield 7, 3) := by decide +kernel
theorem dX8_isGift_7 : decode cX8_isGift 7 = .ok (.iconst 4, 1) := by decide +kernel
theorem dX8_isGift_8 : decode cX8_isGift 8 = .ok (.laload, 1) := by decide +kernel
theorem dX8_isGift_9 : decode cX8_isGift 9 = .ok (.lconst 1, 1) := by decide +kernel
theorem dX8_isGift_10 : decode cX8_isGift 10 = .ok (.lsub, 1) := by decide +kernel
theorem dX8_isGift_11 : decode cX8_isGift 11 = .ok (.invokestatic 59, 3) := by decide +kernel
theorem dX8_isGift_14 : decode cX8_isGift 14 = .ok (.ireturn, 1) := by decide +kernel
