set_option maxRecDepth 20000 in
theorem ggX8_openOf_X8_folderOf : GoodIn wsX8_openOf wsX8_folderOf := goodIn_r _ [6, 1, 19, 20, 21, 22, 23, 24, 25, 26, 27, 28, 29, 30, 31, 32, 33, 34, 35, 36] (by decide +kernel) (by decide +kernel)
set_option maxRecDepth 20000 in
theorem gX8_openOf_X8_folderOf : GoodIn wsX8_openOf (wsV RX8 197 RX8 yX8_folderOf wsX8_folderOf) := goodIn_app (goodIn_of _ (by decide +kernel)) ggX8_openOf_X8_folderOf
set_option maxRecDepth 20000 in
theorem ggX8_openOf_X8_isOpenTo : GoodIn wsX8_openOf wsX8_isOpenTo := goodIn_r _ [10, 11, 12, 13, 5, 14, 1, 15, 16, 17, 18, 19, 20, 21, 22, 23, 24, 25, 26, 27, 28, 29, 30, 31, 32, 33, 34, 35, 36] (by decide +kernel) (by decide +kernel)
set_option maxRecDepth 20000 in
theorem gX8_openOf_X8_isOpenTo : GoodIn wsX8_openOf (wsV RX8 200 RX8 yX8_isOpenTo wsX8_isOpenTo) := goodIn_app (goodIn_of _ (by decide +kernel)) ggX8_openOf_X8_isOpenTo
theorem dX8_openOf_0 : decode cX8_openOf 0 = .ok (.lconst 0, 1) := by decide +kernel
theorem dX8_openOf_1 : decode cX8_openOf 1 = .ok (.lstore_n 3, 1) := by decide +kernel
theorem dX8_openOf_2 : decode cX8_openOf 2 = .ok (.iconst 0, 1) := by decide +kernel
theorem dX8_openOf_3 : decode cX8_openOf 3 = .ok (.istore 5, 2) := by decide +kernel
theorem dX8_openOf_5 : decode cX8_openOf 5 = .ok (.iload 5, 2) := by decide +kernel
theorem dX8_openOf_7 : decode cX8_openOf 7 = .ok (.i2l, 1) := by decide +kernel
theorem dX8_openOf_8 : decode cX8_openOf 8 = .ok (.aload_n 0, 1) := by decide +kernel
theorem dX8_openOf_9 : decode cX8_openOf 9 = .ok (.getfield 7, 3) := by decide +kernel
theorem dX8_openOf_12 : decode cX8_openOf 12 = .ok (.iconst 3, 1) := by decide +kernel
theorem dX8_openOf_13 : decode cX8_openOf 13 = .ok (.laload, 1) := by decide +kernel
theorem dX8_openOf_14 : decode cX8_openOf 14 = .ok (.lcmp, 1) := by decide +kernel
theorem dX8_openOf_15 : decode cX8_openOf 15 = .ok (.ifCond .ge 49, 3) := by decide +kernel
theorem dX8_openOf_18 : decode cX8_openOf 18 = .ok (.lload_n 3, 1) := by decide +kernel
theorem dX8_openOf_19 : decode cX8_openOf 19 = .ok (.aload_n 0, 1) := by decide +kernel
theorem dX8_openOf_20 : decode cX8_openOf 20 = .ok (.aload_n 0, 1) := by decide +kernel
theorem dX8_openOf_21 : decode cX8_openOf 21 = .ok (.iload 5, 2) := by decide +kernel
theorem dX8_openOf_23 : decode cX8_openOf 23 = .ok (.invokevirtual 197, 3) := by decide +kernel
theorem dX8_openOf_26 : decode cX8_openOf 26 = .ok (.iload_n 1, 1) := by decide +kernel
theorem dX8_openOf_27 : decode cX8_openOf 27 = .ok (.invokevirtual 200, 3) := by decide +kernel
theorem dX8_openOf_30 : decode cX8_openOf 30 = .ok (.ifCond .eq 25, 3) := by decide +kernel
theorem dX8_openOf_33 : decode cX8_openOf 33 = .ok (.iload_n 2, 1) := by decide +kernel
theorem dX8_openOf_34 : decode cX8_openOf 34 = .ok (.ifCond .eq 17, 3) := by decide +kernel
theorem dX8_openOf_37 : decode cX8_openOf 37 = .ok (.aload_n 0, 1) := by decide +kernel
theorem dX8_openOf_38 : decode cX8_openOf 38 = .ok (.getfield 7, 3) := by decide +kernel
theorem dX8_openOf_41 : decode cX8_openOf 41 = .ok (.sipush 249, 3) := by decide +kernel
theorem dX8_openOf_44 : decode cX8_openOf 44 = .ok (.iload 5, 2) := by decide +kernel
theorem dX8_openOf_46 : decode cX8_openOf 46 = .ok (.iadd, 1) := by decide +kernel
theorem dX8_openOf_47 : decode cX8_openOf 47 = .ok (.laload, 1) := by decide +kernel
theorem dX8_openOf_48 : decode cX8_openOf 48 = .ok (.goto 8, 3) := by decide +kernel
theorem dX8_openOf_51 : decode cX8_openOf 51 = .ok (.lconst 1, 1) := by decide +kernel
theorem dX8_openOf_52 : decode cX8_openOf 52 = .ok (.goto 4, 3) := by decide +kernel
theorem dX8_openOf_55 : decode cX8_openOf 55 = .ok (.lconst 0, 1) := by decide +kernel
theorem dX8_openOf_56 : decode cX8_openOf 56 = .ok (.ladd, 1) := by decide +kernel
theorem dX8_openOf_57 : decode cX8_openOf 57 = .ok (.lstore_n 3, 1) := by decide +kernel
theorem dX8_openOf_58 : decode cX8_openOf 58 = .ok (.iinc 5 1, 3) := by decide +kernel
theorem dX8_openOf_61 : decode cX8_openOf 61 = .ok (.goto (-56), 3) := by decide +kernel
theorem dX8_openOf_64 : decode cX8_openOf 64 = .ok (.lload_n 3, 1) := by decide +kernel
theorem dX8_openOf_65 : decode cX8_openOf 65 = .ok (.lreturn, 1) := by decide +kernel
set_option maxRecDepth 20000 in
theorem ggX8_childrenOf_X8_parentOf : GoodIn wsX8_childrenOf wsX8_parentOf := goodIn_r _ [6, 1, 7, 8, 9, 10, 11, 12, 13, 14, 15, 16, 17, 18, 19, 20, 21, 22, 23, 24] (by decide +kernel) (by decide +kernel)
set_option maxRecDepth 20000 in
theorem gX8_childrenOf_X8_parentOf : GoodIn wsX8_childrenOf (wsV RX8 194 RX8 yX8_parentOf wsX8_parentOf) := goodIn_app (goodIn_of _ (by decide +kernel)) ggX8_childrenOf_X8_parentOf
theorem dX8_childrenOf_0 : decode cX8_childrenOf 0 = .ok (.iconst 0, 1) := by decide +kernel
theorem dX8_childrenOf_1 : decode cX8_childrenOf 1 = .ok (.istore_n 2, 1) := by decide +kernel
theorem dX8_childrenOf_2 : decode cX8_childrenOf 2 = .ok (.iconst 0, 1) := by decide +kernel
theorem dX8_childrenOf_3 : decode cX8_childrenOf 3 = .ok (.istore_n 3, 1) := by decide +kernel
theorem dX8_childrenOf_4 : decode cX8_childrenOf 4 = .ok (.iload_n 3, 1) := by decide +kernel
theorem dX8_childrenOf_5 : decode cX8_childrenOf 5 = .ok (.i2l, 1) := by decide +kernel
theorem dX8_childrenOf_6 : decode cX8_childrenOf 6 = .ok (.aload_n 0, 1) := by decide +kernel
theorem dX8_childrenOf_7 : decode cX8_childrenOf 7 = .ok (.getfield 7, 3) := by decide +kernel
theorem dX8_childrenOf_10 : decode cX8_childrenOf 10 = .ok (.iconst 2, 1) := by decide +kernel
theorem dX8_childrenOf_11 : decode cX8_childrenOf 11 = .ok (.laload, 1) := by decide +kernel
theorem dX8_childrenOf_12 : decode cX8_childrenOf 12 = .ok (.lcmp, 1) := by decide +kernel
theorem dX8_childrenOf_13 : decode cX8_childrenOf 13 = .ok (.ifCond .ge 26, 3) := by decide +kernel
theorem dX8_childrenOf_16 : decode cX8_childrenOf 16 = .ok (.iload_n 2, 1) := by decide +kernel
theorem dX8_childrenOf_17 : decode cX8_childrenOf 17 = .ok (.aload_n 0, 1) := by decide +kernel
theorem dX8_childrenOf_18 : decode cX8_childrenOf 18 = .ok (.iload_n 3, 1) := by decide +kernel
theorem dX8_childrenOf_19 : decode cX8_childrenOf 19 = .ok (.invokevirtual 194, 3) := by decide +kernel
theorem dX8_childrenOf_22 : decode cX8_childrenOf 22 = .ok (.iload_n 1, 1) := by decide +kernel
theorem dX8_childrenOf_23 : decode cX8_childrenOf 23 = .ok (.if_icmp .ne 7, 3) := by decide +kernel
theorem dX8_childrenOf_26 : decode cX8_childrenOf 26 = .ok (.iconst 1, 1) := by decide +kernel
theorem dX8_childrenOf_27 : decode cX8_childrenOf 27 = .ok (.goto 4, 3) := by decide +kernel
theorem dX8_childrenOf_30 : decode cX8_childrenOf 30 = .ok (.iconst 0, 1) := by decide +kernel
theorem dX8_childrenOf_31 : decode cX8_childrenOf 31 = .ok (.iadd, 1) := by decide +kernel
theorem dX8_childrenOf_32 : decode cX8_childrenOf 32 = .ok (.istore_n 2, 1) := by decide +kernel
theorem dX8_childrenOf_33 : decode cX8_childrenOf 33 = .ok (.iinc 3 1, 3) := by decide +kernel
theorem dX8_childrenOf_36 : decode cX8_childrenOf 36 = .ok (.goto (-32), 3) := by decide +kernel
theorem dX8_childrenOf_39 : decode cX8_childrenOf 39 = .ok (.iload_n 2, 1) := by decide +kernel
theorem dX8_childrenOf_40 : decode cX8_childrenOf 40 = .ok (.ireturn, 1) := by decide +kernel
set_option maxRecDepth 20000 in
theorem ggX8_filesIn_X8_folderOf : GoodIn wsX8_filesIn wsX8_folderOf := goodIn_r _ [6, 1, 7, 8, 9, 10, 11, 12, 13, 14, 15, 16, 17, 18, 19, 20, 21, 22, 23, 24] (by decide +kernel) (by decide +kernel)
set_option maxRecDepth 20000 in
theorem gX8_filesIn_X8_folderOf : GoodIn wsX8_filesIn (wsV RX8 197 RX8 yX8_folderOf wsX8_folderOf) := goodIn_app (goodIn_of _ (by decide +kernel)) ggX8_filesIn_X8_folderOf
theorem dX8_filesIn_0 : decode cX8_filesIn 0 = .ok (.iconst 0, 1) := by decide +kernel
theorem dX8_filesIn_1 : decode cX8_filesIn 1 = .ok (.istore_n 2, 1) := by decide +kernel
theorem dX8_filesIn_2 : decode cX8_filesIn 2 = .ok (.iconst 0, 1) := by decide +kernel
theorem dX8_filesIn_3 : decode cX8_filesIn 3 = .ok (.istore_n 3, 1) := by decide +kernel
theorem dX8_filesIn_4 : decode cX8_filesIn 4 = .ok (.iload_n 3, 1) := by decide +kernel
theorem dX8_filesIn_5 : decode cX8_filesIn 5 = .ok (.i2l, 1) := by decide +kernel
theorem dX8_filesIn_6 : decode cX8_filesIn 6 = .ok (.aload_n 0, 1) := by decide +kernel
theorem dX8_filesIn_7 : decode cX8_filesIn 7 = .ok (.getfield 7, 3) := by decide +kernel
theorem dX8_filesIn_10 : decode cX8_filesIn 10 = .ok (.iconst 3, 1) := by decide +kernel
theorem dX8_filesIn_11 : decode cX8_filesIn 11 = .ok (.laload, 1) := by decide +kernel
theorem dX8_filesIn_12 : decode cX8_filesIn 12 = .ok (.lcmp, 1) := by decide +kernel
theorem dX8_filesIn_13 : decode cX8_filesIn 13 = .ok (.ifCond .ge 26, 3) := by decide +kernel
theorem dX8_filesIn_16 : decode cX8_filesIn 16 = .ok (.iload_n 2, 1) := by decide +kernel
theorem dX8_filesIn_17 : decode cX8_filesIn 17 = .ok (.aload_n 0, 1) := by decide +kernel
theorem dX8_filesIn_18 : decode cX8_filesIn 18 = .ok (.iload_n 3, 1) := by decide +kernel
theorem dX8_filesIn_19 : decode cX8_filesIn 19 = .ok (.invokevirtual 197, 3) := by decide +kernel
theorem dX8_filesIn_22 : decode cX8_filesIn 22 = .ok (.iload_n 1, 1) := by decide +kernel
theorem dX8_filesIn_23 : decode cX8_filesIn 23 = .ok (.if_icmp .ne 7, 3) := by decide +kernel
theorem dX8_filesIn_26 : decode cX8_filesIn 26 = .ok (.iconst 1, 1) := by decide +kernel
theorem dX8_filesIn_27 : decode cX8_filesIn 27 = .ok (.goto 4, 3) := by decide +kernel
theorem dX8_filesIn_30 : decode cX8_filesIn 30 = .ok (.iconst 0, 1) := by decide +kernel
theorem dX8_filesIn_31 : decode cX8_filesIn 31 = .ok (.iadd, 1) := by decide +kernel
theorem dX8_filesIn_32 : decode cX8_filesIn 32 = .ok (.istore_n 2, 1) := by decide +kernel
theorem dX8_filesIn_33 : decode cX8_filesIn 33 = .ok (.iinc 3 1, 3) := by decide +kernel
theorem dX8_filesIn_36 : decode cX8_filesIn 36 = .ok (.goto (-32), 3) := by decide +kernel
theorem dX8_filesIn_39 : decode cX8_filesIn 39 = .ok (.iload_n 2, 1) := by decide +kernel
theorem dX8_filesIn_40 : decode cX8_filesIn 40 = .ok (.ireturn, 1) := by decide +kernel
set_option maxRecDepth 20000 in
theorem ggX8_foldersBelow_X8_isBelow : GoodIn wsX8_foldersBelow wsX8_isBelow := goodIn_r _ [6, 7, 8, 9, 5, 10, 1, 11, 12, 13, 14, 15, 16, 17, 18, 19, 20, 21, 22, 23, 24, 25, 26, 27, 28] (by decide +kernel) (by decide +kernel)
set_option maxRecDepth 20000 in
theorem gX8_foldersBelow_X8_isBelow : GoodIn wsX8_foldersBelow (wsV RX8 204 RX8 yX8_isBelow wsX8_isBelow) := goodIn_app (goodIn_of _ (by decide +kernel)) ggX8_foldersBelow_X8_isBelow
theorem dX8_foldersBelow_0 : decode cX8_foldersBelow 0 = .ok (.iconst 0, 1) := by decide +kernel
theorem dX8_foldersBelow_1 : decode cX8_foldersBelow 1 = .ok (.istore_n 2, 1) := by decide +kernel
theorem dX8_foldersBelow_2 : decode cX8_foldersBelow 2 = .ok (.iconst 0, 1) := by decide +kernel
theorem dX8_foldersBelow_3 : decode cX8_foldersBelow 3 = .ok (.istore_n 3, 1) := by decide +kernel
theorem dX8_foldersBelow_4 : decode cX8_foldersBelow 4 = .ok (.iload_n 3, 1) := by decide +kernel
theorem dX8_foldersBelow_5 : decode cX8_foldersBelow 5 = .ok (.i2l, 1) := by decide +kernel
theorem dX8_foldersBelow_6 : decode cX8_foldersBelow 6 = .ok (.aload_n 0, 1) := by decide +kernel
theorem dX8_foldersBelow_7 : decode cX8_foldersBelow 7 = .ok (.getfield 7, 3) := by decide +kernel
theorem dX8_foldersBelow_10 : decode cX8_foldersBelow 10 = .ok (.iconst 2, 1) := by decide +kernel
theorem dX8_foldersBelow_11 : decode cX8_foldersBelow 11 = .ok (.laload, 1) := by decide +kernel
theorem dX8_foldersBelow_12 : decode cX8_foldersBelow 12 = .ok (.lcmp, 1) := by decide +kernel
theorem dX8_foldersBelow_13 : decode cX8_foldersBelow 13 = .ok (.ifCond .ge 26, 3) := by decide +kernel
theorem dX8_foldersBelow_16 : decode cX8_foldersBelow 16 = .ok (.iload_n 2, 1) := by decide +kernel
theorem dX8_foldersBelow_17 : decode cX8_foldersBelow 17 = .ok (.aload_n 0, 1) := by decide +kernel
theorem dX8_foldersBelow_18 : decode cX8_foldersBelow 18 = .ok (.iload_n 3, 1) := by decide +kernel
theorem dX8_foldersBelow_19 : decode cX8_foldersBelow 19 = .ok (.iload_n 1, 1) := by decide +kernel
theorem dX8_foldersBelow_20 : decode cX8_foldersBelow 20 = .ok (.invokevirtual 204, 3) := by decide +kernel
theorem dX8_foldersBelow_23 : decode cX8_foldersBelow 23 = .ok (.ifCond .eq 7, 3) := by decide +kernel
theorem dX8_foldersBelow_26 : decode cX8_foldersBelow 26 = .ok (.iconst 1, 1) := by decide +kernel
theorem dX8_foldersBelow_27 : decode cX8_foldersBelow 27 = .ok (.goto 4, 3) := by decide +kernel
theorem dX8_foldersBelow_30 : decode cX8_foldersBelow 30 = .ok (.iconst 0, 1) := by decide +kernel
theorem dX8_foldersBelow_31 : decode cX8_foldersBelow 31 = .ok (.iadd, 1) := by decide +kernel
theorem dX8_foldersBelow_32 : decode cX8_foldersBelow 32 = .ok (.istore_n 2, 1) := by decide +kernel
theorem dX8_foldersBelow_33 : decode cX8_foldersBelow 33 = .ok (.iinc 3 1, 3) := by decide +kernel
theorem dX8_foldersBelow_36 : decode cX8_foldersBelow 36 = .ok (.goto (-32), 3) := by decide +kernel
theorem dX8_foldersBelow_39 : decode cX8_foldersBelow 39 = .ok (.iload_n 2, 1) := by decide +kernel
theorem dX8_foldersBelow_40 : decode cX8_foldersBelow 40 = .ok (.ireturn, 1) := by decide +kernel
set_option maxRecDepth 20000 in
theorem ggX8_filesBelow_X8_folderOf : GoodIn wsX8_filesBelow wsX8_folderOf := goodIn_r _ [6, 1, 15, 16, 17, 18, 19, 20, 21, 22, 23, 24, 25, 26, 27, 28, 29, 30, 31, 32] (by decide +kernel) (by decide +kernel)
set_option maxRecDepth 20000 in
theorem gX8_filesBelow_X8_folderOf : GoodIn wsX8_filesBelow (wsV RX8 197 RX8 yX8_folderOf wsX8_folderOf) := goodIn_app (goodIn_of _ (by decide +kernel)) ggX8_filesBelow_X8_folderOf
set_option maxRecDepth 20000 in
theorem ggX8_filesBelow_X8_isBelow : GoodIn wsX8_filesBelow wsX8_isBelow := goodIn_r _ [10, 11, 12, 13, 5, 14, 1, 15, 16, 17, 18, 19, 20, 21, 22, 23, 24, 25, 26, 27, 28, 29, 30, 31, 32] (by decide +kernel) (by decide +kernel)
set_option maxRecDepth 20000 in
theorem gX8_filesBelow_X8_isBelow : GoodIn wsX8_filesBelow (wsV RX8 204 RX8 yX8_isBelow wsX8_isBelow) := goodIn_app (goodIn_of _ (by decide +kernel)) ggX8_filesBelow_X8_isBelow
theorem dX8_filesBelow_0 : decode cX8_filesBelow 0 = .ok (.lconst 0, 1) := by decide +kernel
theorem dX8_filesBelow_1 : decode cX8_filesBelow 1 = .ok (.lstore_n 3, 1) := by decide +kernel
theorem dX8_filesBelow_2 : decode cX8_filesBelow 2 = .ok (.iconst 0, 1) := by decide +kernel
theorem dX8_filesBelow_3 : decode cX8_filesBelow 3 = .ok (.istore 5, 2) := by decide +kernel
theorem dX8_filesBelow_5 : decode cX8_filesBelow 5 = .ok (.iload 5, 2) := by decide +kernel
theorem dX8_filesBelow_7 : decode cX8_filesBelow 7 = .ok (.i2l, 1) := by decide +kernel
theorem dX8_filesBelow_8 : decode cX8_filesBelow 8 = .ok (.aload_n 0, 1) := by decide +kernel
theorem dX8_filesBelow_9 : decode cX8_filesBelow 9 = .ok (.getfield 7, 3) := by decide +kernel
theorem dX8_filesBelow_12 : decode cX8_filesBelow 12 = .ok (.iconst 3, 1) := by decide +kernel
theorem dX8_filesBelow_13 : decode cX8_filesBelow 13 = .ok (.laload, 1) := by decide +kernel
theorem dX8_filesBelow_14 : decode cX8_filesBelow 14 = .ok (.lcmp, 1) := by decide +kernel
theorem dX8_filesBelow_15 : decode cX8_filesBelow 15 = .ok (.ifCond .ge 49, 3) := by decide +kernel
theorem dX8_filesBelow_18 : decode cX8_filesBelow 18 = .ok (.lload_n 3, 1) := by decide +kernel
theorem dX8_filesBelow_19 : decode cX8_filesBelow 19 = .ok (.aload_n 0, 1) := by decide +kernel
theorem dX8_filesBelow_20 : decode cX8_filesBelow 20 = .ok (.aload_n 0, 1) := by decide +kernel
theorem dX8_filesBelow_21 : decode cX8_filesBelow 21 = .ok (.iload 5, 2) := by decide +kernel
theorem dX8_filesBelow_23 : decode cX8_filesBelow 23 = .ok (.invokevirtual 197, 3) := by decide +kernel
theorem dX8_filesBelow_26 : decode cX8_filesBelow 26 = .ok (.iload_n 1, 1) := by decide +kernel
theorem dX8_filesBelow_27 : decode cX8_filesBelow 27 = .ok (.invokevirtual 204, 3) := by decide +kernel
theorem dX8_filesBelow_30 : decode cX8_filesBelow 30 = .ok (.ifCond .eq 25, 3) := by decide +kernel
theorem dX8_filesBelow_33 : decode cX8_filesBelow 33 = .ok (.iload_n 2, 1) := by decide +kernel
theorem dX8_filesBelow_34 : decode cX8_filesBelow 34 = .ok (.ifCond .eq 17, 3) := by decide +kernel
theorem dX8_filesBelow_37 : decode cX8_filesBelow 37 = .ok (.aload_n 0, 1) := by decide +kernel
theorem dX8_filesBelow_38 : decode cX8_filesBelow 38 = .ok (.getfield 7, 3) := by decide +kernel
theorem dX8_filesBelow_41 : decode cX8_filesBelow 41 = .ok (.sipush 249, 3) := by decide +kernel
theorem dX8_filesBelow_44 : decode cX8_filesBelow 44 = .ok (.iload 5, 2) := by decide +kernel
theorem dX8_filesBelow_46 : decode cX8_filesBelow 46 = .ok (.iadd, 1) := by decide +kernel
theorem dX8_filesBelow_47 : decode cX8_filesBelow 47 = .ok (.laload, 1) := by decide +kernel
theorem dX8_filesBelow_48 : decode cX8_filesBelow 48 = .ok (.goto 8, 3) := by decide +kernel
theorem dX8_filesBelow_51 : decode cX8_filesBelow 51 = .ok (.lconst 1, 1) := by decide +kernel
theorem dX8_filesBelow_52 : decode cX8_filesBelow 52 = .ok (.goto 4, 3) := by decide +kernel
theorem dX8_filesBelow_55 : decode cX8_filesBelow 55 = .ok (.lconst 0, 1) := by decide +kernel
theorem dX8_filesBelow_56 : decode cX8_filesBelow 56 = .ok (.ladd, 1) := by decide +kernel
theorem dX8_filesBelow_57 : decode cX8_filesBelow 57 = .ok (.lstore_n 3, 1) := by decide +kernel
theorem dX8_filesBelow_58 : decode cX8_filesBelow 58 = .ok (.iinc 5 1, 3) := by decide +kernel
theorem dX8_filesBelow_61 : decode cX8_filesBelow 61 = .ok (.goto (-56), 3) := by decide +kernel
theorem dX8_filesBelow_64 : decode cX8_filesBelow 64 = .ok (.lload_n 3, 1) := by decide +kernel
theorem dX8_filesBelow_65 : decode cX8_filesBelow 65 = .ok (.lreturn, 1) := by decide +kernel
set_option maxRecDepth 20000 in
theorem ggX8_taggedNow_X8_tagOf : GoodIn wsX8_taggedNow wsX8_tagOf := goodIn_r _ [6, 1, 7, 8, 9, 10, 11, 12, 13, 14, 15, 16, 17, 18, 19, 20, 21, 22, 23, 24] (by decide +kernel) (by decide +kernel)
set_option maxRecDepth 20000 in
theorem gX8_taggedNow_X8_tagOf : GoodIn wsX8_taggedNow (wsV RX8 191 RX8 yX8_tagOf wsX8_tagOf) := goodIn_app (goodIn_of _ (by decide +kernel)) ggX8_taggedNow_X8_tagOf
theorem dX8_taggedNow_0 : decode cX8_taggedNow 0 = .ok (.iconst 0, 1) := by decide +kernel
theorem dX8_taggedNow_1 : decode cX8_taggedNow 1 = .ok (.istore_n 1, 1) := by decide +kernel
theorem dX8_taggedNow_2 : decode cX8_taggedNow 2 = .ok (.iconst 0, 1) := by decide +kernel
theorem dX8_taggedNow_3 : decode cX8_taggedNow 3 = .ok (.istore_n 2, 1) := by decide +kernel
theorem dX8_taggedNow_4 : decode cX8_taggedNow 4 = .ok (.iload_n 2, 1) := by decide +kernel
theorem dX8_taggedNow_5 : decode cX8_taggedNow 5 = .ok (.i2l, 1) := by decide +kernel
theorem dX8_taggedNow_6 : decode cX8_taggedNow 6 = .ok (.aload_n 0, 1) := by decide +kernel
theorem dX8_taggedNow_7 : decode cX8_taggedNow 7 = .ok (.getfield 7, 3) := by decide +kernel
theorem dX8_taggedNow_10 : decode cX8_taggedNow 10 = .ok (.iconst 2, 1) := by decide +kernel
theorem dX8_taggedNow_11 : decode cX8_taggedNow 11 = .ok (.laload, 1) := by decide +kernel
theorem dX8_taggedNow_12 : decode cX8_taggedNow 12 = .ok (.lcmp, 1) := by decide +kernel
theorem dX8_taggedNow_13 : decode cX8_taggedNow 13 = .ok (.ifCond .ge 26, 3) := by decide +kernel
theorem dX8_taggedNow_16 : decode cX8_taggedNow 16 = .ok (.iload_n 1, 1) := by decide +kernel
theorem dX8_taggedNow_17 : decode cX8_taggedNow 17 = .ok (.aload_n 0, 1) := by decide +kernel
theorem dX8_taggedNow_18 : decode cX8_taggedNow 18 = .ok (.iload_n 2, 1) := by decide +kernel
theorem dX8_taggedNow_19 : decode cX8_taggedNow 19 = .ok (.invokevirtual 191, 3) := by decide +kernel
theorem dX8_taggedNow_22 : decode cX8_taggedNow 22 = .ok (.iconst (-1), 1) := by decide +kernel
theorem dX8_taggedNow_23 : decode cX8_taggedNow 23 = .ok (.if_icmp .ne 7, 3) := by decide +kernel
theorem dX8_taggedNow_26 : decode cX8_taggedNow 26 = .ok (.iconst 0, 1) := by decide +kernel
theorem dX8_taggedNow_27 : decode cX8_taggedNow 27 = .ok (.goto 4, 3) := by decide +kernel
theorem dX8_taggedNow_30 : decode cX8_taggedNow 30 = .ok (.iconst 1, 1) := by decide +kernel
theorem dX8_taggedNow_31 : decode cX8_taggedNow 31 = .ok (.iadd, 1) := by decide +kernel
theorem dX8_taggedNow_32 : decode cX8_taggedNow 32 = .ok (.istore_n 1, 1) := by decide +kernel
theorem dX8_taggedNow_33 : decode cX8_taggedNow 33 = .ok (.iinc 2 1, 3) := by decide +kernel
theorem dX8_taggedNow_36 : decode cX8_taggedNow 36 = .ok (.goto (-32), 3) := by decide +kernel
theorem dX8_taggedNow_39 : decode cX8_taggedNow 39 = .ok (.iload_n 1, 1) := by decide +kernel
theorem dX8_taggedNow_40 : decode cX8_taggedNow 40 = .ok (.ireturn, 1) := by decide +kernel
set_option maxRecDepth 20000 in
theorem ggX8_withoutProject_X8_folderOf : GoodIn wsX8_withoutProject wsX8_folderOf := goodIn_r _ [6, 1, 19, 20, 21, 22, 23, 24, 25, 26, 27, 28, 29, 30, 31, 32, 33, 34, 35, 36] (by decide +kernel) (by decide +kernel)
set_option maxRecDepth 20000 in
theorem gX8_withoutProject_X8_folderOf : GoodIn wsX8_withoutProject (wsV RX8 197 RX8 yX8_folderOf wsX8_folderOf) := goodIn_app (goodIn_of _ (by decide +kernel)) ggX8_withoutProject_X8_folderOf
set_option maxRecDepth 20000 in
theorem ggX8_withoutProject_X8_projectOf : GoodIn wsX8_withoutProject wsX8_projectOf := goodIn_r _ [10, 11, 12, 13, 5, 14, 1, 15, 16, 17, 18, 19, 20, 21, 22, 23, 24, 25, 26, 27, 28, 29, 30, 31, 32, 33, 34, 35, 36] (by decide +kernel) (by decide +kernel)
set_option maxRecDepth 20000 in
theorem gX8_withoutProject_X8_projectOf : GoodIn wsX8_withoutProject (wsV RX8 207 RX8 yX8_projectOf wsX8_projectOf) := goodIn_app (goodIn_of _ (by decide +kernel)) ggX8_withoutProject_X8_projectOf
theorem dX8_withoutProject_0 : decode cX8_withoutProject 0 = .ok (.iconst 0, 1) := by decide +kernel
theorem dX8_withoutProject_1 : decode cX8_withoutProject 1 = .ok (.istore_n 1, 1) := by decide +kernel
theorem dX8_withoutProject_2 : decode cX8_withoutProject 2 = .ok (.iconst 0, 1) := by decide +kernel
theorem dX8_withoutProject_3 : decode cX8_withoutProject 3 = .ok (.istore_n 2, 1) := by decide +kernel
theorem dX8_withoutProject_4 : decode cX8_withoutProject 4 = .ok (.iload_n 2, 1) := by decide +kernel
theorem dX8_withoutProject_5 : decode cX8_withoutProject 5 = .ok (.i2l, 1) := by decide +kernel
theorem dX8_withoutProject_6 : decode cX8_withoutProject 6 = .ok (.aload_n 0, 1) := by decide +kernel
theorem dX8_withoutProject_7 : decode cX8_withoutProject 7 = .ok (.getfield 7, 3) := by decide +kernel
theorem dX8_withoutProject_10 : decode cX8_withoutProject 10 = .ok (.iconst 3, 1) := by decide +kernel
theorem dX8_withoutProject_11 : decode cX8_withoutProject 11 = .ok (.laload, 1) := by decide +kernel
theorem dX8_withoutProject_12 : decode cX8_withoutProject 12 = .ok (.lcmp, 1) := by decide +kernel
theorem dX8_withoutProject_13 : decode cX8_withoutProject 13 = .ok (.ifCond .ge 30, 3) := by decide +kernel
theorem dX8_withoutProject_16 : decode cX8_withoutProject 16 = .ok (.iload_n 1, 1) := by decide +kernel
theorem dX8_withoutProject_17 : decode cX8_withoutProject 17 = .ok (.aload_n 0, 1) := by decide +kernel
theorem dX8_withoutProject_18 : decode cX8_withoutProject 18 = .ok (.aload_n 0, 1) := by decide +kernel
theorem dX8_withoutProject_19 : decode cX8_withoutProject 19 = .ok (.iload_n 2, 1) := by decide +kernel
theorem dX8_withoutProject_20 : decode cX8_withoutProject 20 = .ok (.invokevirtual 197, 3) := by decide +kernel
theorem dX8_withoutProject_23 : decode cX8_withoutProject 23 = .ok (.invokevirtual 207, 3) := by decide +kernel
theorem dX8_withoutProject_26 : decode cX8_withoutProject 26 = .ok (.iconst (-1), 1) := by decide +kernel
theorem dX8_withoutProject_27 : decode cX8_withoutProject 27 = .ok (.if_icmp .ne 7, 3) := by decide +kernel
theorem dX8_withoutProject_30 : decode cX8_withoutProject 30 = .ok (.iconst 1, 1) := by decide +kernel
theorem dX8_withoutProject_31 : decode cX8_withoutProject 31 = .ok (.goto 4, 3) := by decide +kernel
theorem dX8_withoutProject_34 : decode cX8_withoutProject 34 = .ok (.iconst 0, 1) := by decide +kernel
theorem dX8_withoutProject_35 : decode cX8_withoutProject 35 = .ok (.iadd, 1) := by decide +kernel
theorem dX8_withoutProject_36 : decode cX8_withoutProject 36 = .ok (.istore_n 1, 1) := by decide +kernel
theorem dX8_withoutProject_37 : decode cX8_withoutProject 37 = .ok (.iinc 2 1, 3) := by decide +kernel
theorem dX8_withoutProject_40 : decode cX8_withoutProject 40 = .ok (.goto (-36), 3) := by decide +kernel
theorem dX8_withoutProject_43 : decode cX8_withoutProject 43 = .ok (.iload_n 1, 1) := by decide +kernel
theorem dX8_withoutProject_44 : decode cX8_withoutProject 44 = .ok (.ireturn, 1) := by decide +kernel
theorem dX8_giftsOf_0 : decode cX8_giftsOf 0 = .ok (.lconst 0, 1) := by decide +kernel
theorem dX8_giftsOf_1 : decode cX8_giftsOf 1 = .ok (.lstore_n 2, 1) := by decide +kernel
theorem dX8_giftsOf_2 : decode cX8_giftsOf 2 = .ok (.iconst 0, 1) := by decide +kernel
theorem dX8_giftsOf_3 : decode cX8_giftsOf 3 = .ok (.istore 4, 2) := by decide +kernel
theorem dX8_giftsOf_5 : decode cX8_giftsOf 5 = .ok (.iload 4, 2) := by decide +kernel
theorem dX8_giftsOf_7 : decode cX8_giftsOf 7 = .ok (.i2l, 1) := by decide +kernel
theorem dX8_giftsOf_8 : decode cX8_giftsOf 8 = .ok (.aload_n 0, 1) := by decide +kernel
theorem dX8_giftsOf_9 : decode cX8_giftsOf 9 = .ok (.getfield 7, 3) := by decide +kernel
theorem dX8_giftsOf_12 : decode cX8_giftsOf 12 = .ok (.iconst 4, 1) := by decide +kernel
theorem dX8_giftsOf_13 : decode cX8_giftsOf 13 = .ok (.laload, 1) := by decide +kernel
theorem dX8_giftsOf_14 : decode cX8_giftsOf 14 = .ok (.lcmp, 1) := by decide +kernel
theorem dX8_giftsOf_15 : decode cX8_giftsOf 15 = .ok (.ifCond .ge 81, 3) := by decide +kernel
theorem dX8_giftsOf_18 : decode cX8_giftsOf 18 = .ok (.sipush 309, 3) := by decide +kernel
theorem dX8_giftsOf_21 : decode cX8_giftsOf 21 = .ok (.iconst 4, 1) := by decide +kernel
theorem dX8_giftsOf_22 : decode cX8_giftsOf 22 = .ok (.iload 4, 2) := by decide +kernel
theorem dX8_giftsOf_24 : decode cX8_giftsOf 24 = .ok (.imul, 1) := by decide +kernel
theorem dX8_giftsOf_25 : decode cX8_giftsOf 25 = .ok (.iadd, 1) := by decide +kernel
theorem dX8_giftsOf_26 : decode cX8_giftsOf 26 = .ok (.istore 5, 2) := by decide +kernel
theorem dX8_giftsOf_28 : decode cX8_giftsOf 28 = .ok (.lload_n 2, 1) := by decide +kernel
theorem dX8_giftsOf_29 : decode cX8_giftsOf 29 = .ok (.aload_n 0, 1) := by decide +kernel
theorem dX8_giftsOf_30 : decode cX8_giftsOf 30 = .ok (.getfield 7, 3) := by decide +kernel
theorem dX8_giftsOf_33 : decode cX8_giftsOf 33 = .ok (.iload 5, 2) := by decide +kernel
theorem dX8_giftsOf_35 : decode cX8_giftsOf 35 = .ok (.iconst 1, 1) := by decide +kernel
theorem dX8_giftsOf_36 : decode cX8_giftsOf 36 = .ok (.iadd, 1) := by decide +kernel
theorem dX8_giftsOf_37 : decode cX8_giftsOf 37 = .ok (.laload, 1) := by decide +kernel
theorem dX8_giftsOf_38 : decode cX8_giftsOf 38 = .ok (.iload_n 1, 1) := by decide +kernel
theorem dX8_giftsOf_39 : decode cX8_giftsOf 39 = .ok (.i2l, 1) := by decide +kernel
theorem dX8_giftsOf_40 : decode cX8_giftsOf 40 = .ok (.lcmp, 1) := by decide +kernel
theorem dX8_giftsOf_41 : decode cX8_giftsOf 41 = .ok (.ifCond .ne 15, 3) := by decide +kernel
theorem dX8_giftsOf_44 : decode cX8_giftsOf 44 = .ok (.aload_n 0, 1) := by decide +kernel
theorem dX8_giftsOf_45 : decode cX8_giftsOf 45 = .ok (.getfield 7, 3) := by decide +kernel
theorem dX8_giftsOf_48 : decode cX8_giftsOf 48 = .ok (.iload 5, 2) := by decide +kernel
theorem dX8_giftsOf_50 : decode cX8_giftsOf 50 = .ok (.iconst 2, 1) := by decide +kernel
theorem dX8_giftsOf_51 : decode cX8_giftsOf 51 = .ok (.iadd, 1) := by decide +kernel
theorem dX8_giftsOf_52 : decode cX8_giftsOf 52 = .ok (.laload, 1) := by decide +kernel
theorem dX8_giftsOf_53 : decode cX8_giftsOf 53 = .ok (.goto 4, 3) := by decide +kernel
theorem dX8_giftsOf_56 : decode cX8_giftsOf 56 = .ok (.lconst 0, 1) := by decide +kernel
theorem dX8_giftsOf_57 : decode cX8_giftsOf 57 = .ok (.ladd, 1) := by decide +kernel
theorem dX8_giftsOf_58 : decode cX8_giftsOf 58 = .ok (.lstore_n 2, 1) := by decide +kernel
theorem dX8_giftsOf_59 : decode cX8_giftsOf 59 = .ok (.lload_n 2, 1) := by decide +kernel
theorem dX8_giftsOf_60 : decode cX8_giftsOf 60 = .ok (.aload_n 0, 1) := by decide +kernel
theorem dX8_giftsOf_61 : decode cX8_giftsOf 61 = .ok (.getfield 7, 3) := by decide +kernel
theorem dX8_giftsOf_64 : decode cX8_giftsOf 64 = .ok (.iload 5, 2) := by decide +kernel
theorem dX8_giftsOf_66 : decode cX8_giftsOf 66 = .ok (.iconst 0, 1) := by decide +kernel
theorem dX8_giftsOf_67 : decode cX8_giftsOf 67 = .ok (.iadd, 1) := by decide +kernel
theorem dX8_giftsOf_68 : decode cX8_giftsOf 68 = .ok (.laload, 1) := by decide +kernel
theorem dX8_giftsOf_69 : decode cX8_giftsOf 69 = .ok (.iload_n 1, 1) := by decide +kernel
theorem dX8_giftsOf_70 : decode cX8_giftsOf 70 = .ok (.i2l, 1) := by decide +kernel
theorem dX8_giftsOf_71 : decode cX8_giftsOf 71 = .ok (.lcmp, 1) := by decide +kernel
theorem dX8_giftsOf_72 : decode cX8_giftsOf 72 = .ok (.ifCond .ne 15, 3) := by decide +kernel
theorem dX8_giftsOf_75 : decode cX8_giftsOf 75 = .ok (.aload_n 0, 1) := by decide +kernel
theorem dX8_giftsOf_76 : decode cX8_giftsOf 76 = .ok (.getfield 7, 3) := by decide +kernel
theorem dX8_giftsOf_79 : decode cX8_giftsOf 79 = .ok (.iload 5, 2) := by decide +kernel
theorem dX8_giftsOf_81 : decode cX8_giftsOf 81 = .ok (.iconst 2, 1) := by decide +kernel
theorem dX8_giftsOf_82 : decode cX8_giftsOf 82 = .ok (.iadd, 1) := by decide +kernel
theorem dX8_giftsOf_83 : decode cX8_giftsOf 83 = .ok (.laload, 1) := by decide +kernel
theorem dX8_giftsOf_84 : decode cX8_giftsOf 84 = .ok (.goto 4, 3) := by decide +kernel
theorem dX8_giftsOf_87 : decode cX8_giftsOf 87 = .ok (.lconst 0, 1) := by decide +kernel
theorem dX8_giftsOf_88 : decode cX8_giftsOf 88 = .ok (.lsub, 1) := by decide +kernel
theorem dX8_giftsOf_89 : decode cX8_giftsOf 89 = .ok (.lstore_n 2, 1) := by decide +kernel
theorem dX8_giftsOf_90 : decode cX8_giftsOf 90 = .ok (.iinc 4 1, 3) := by decide +kernel
theorem dX8_giftsOf_93 : decode cX8_giftsOf 93 = .ok (.goto (-88), 3) := by decide +kernel
theorem dX8_giftsOf_96 : decode cX8_giftsOf 96 = .ok (.lload_n 2, 1) := by decide +kernel
theorem dX8_giftsOf_97 : decode cX8_giftsOf 97 = .ok (.lreturn, 1) := by decide +kernel
set_option maxRecDepth 20000 in
theorem ggX8_limitOf_X8_place : GoodIn wsX8_limitOf wsX8_place := goodIn_r _ [6] (by decide +kernel) (by decide +kernel)
set_option maxRecDepth 20000 in
theorem gX8_limitOf_X8_place : GoodIn wsX8_limitOf (va_wsS RX8 255 yX8_place wsX8_place) := goodIn_app (goodIn_of _ (by decide +kernel)) ggX8_limitOf_X8_place
set_option maxRecDepth 20000 in
theorem ggX8_limitOf_X8_giftsOf : GoodIn wsX8_limitOf wsX8_giftsOf := goodIn_r _ [10, 1, 14, 15, 16, 17, 18, 19, 20, 21, 22, 23, 24, 25, 26, 27, 28, 29, 30, 31] (by decide +kernel) (by decide +kernel)
set_option maxRecDepth 20000 in
theorem gX8_limitOf_X8_giftsOf : GoodIn wsX8_limitOf (wsV RX8 258 RX8 yX8_giftsOf wsX8_giftsOf) := goodIn_app (goodIn_of _ (by decide +kernel)) ggX8_limitOf_X8_giftsOf
set_option maxRecDepth 20000 in
theorem ggX8_limitOf_X8_greater : GoodIn wsX8_limitOf wsX8_greater := goodIn_r _ [13] (by decide +kernel) (by decide +kernel)
set_option maxRecDepth 20000 in
theorem gX8_limitOf_X8_greater : GoodIn wsX8_limitOf (va_wsS RX8 262 yX8_greater wsX8_greater) := goodIn_app (goodIn_of _ (by decide +kernel)) ggX8_limitOf_X8_greater
theorem dX8_limitOf_0 : decode cX8_limitOf 0 = .ok (.aload_n 0, 1) := by decide +kernel
theorem dX8_limitOf_1 : decode cX8_limitOf 1 = .ok (.getfield 7, 3) := by decide +kernel
theorem dX8_limitOf_4 : decode cX8_limitOf 4 = .ok (.iload_n 3, 1) := by decide +kernel
theorem dX8_limitOf_5 : decode cX8_limitOf 5 = .ok (.ifCond .eq 8, 3) := by decide +kernel
theorem dX8_limitOf_8 : decode cX8_limitOf 8 = .ok (.bipush 21, 2) := by decide +kernel
theorem dX8_limitOf_10 : decode cX8_limitOf 10 = .ok (.goto 4, 3) := by decide +kernel
theorem dX8_limitOf_13 : decode cX8_limitOf 13 = .ok (.iconst 5, 1) := by decide +kernel
theorem dX8_limitOf_14 : decode cX8_limitOf 14 = .ok (.iload_n 1, 1) := by decide +kernel
theorem dX8_limitOf_15 : decode cX8_limitOf 15 = .ok (.iload_n 2, 1) := by decide +kernel
theorem dX8_limitOf_16 : decode cX8_limitOf 16 = .ok (.invokestatic 255, 3) := by decide +kernel
theorem dX8_limitOf_19 : decode cX8_limitOf 19 = .ok (.iadd, 1) := by decide +kernel
theorem dX8_limitOf_20 : decode cX8_limitOf 20 = .ok (.laload, 1) := by decide +kernel
theorem dX8_limitOf_21 : decode cX8_limitOf 21 = .ok (.lstore 4, 2) := by decide +kernel
theorem dX8_limitOf_23 : decode cX8_limitOf 23 = .ok (.lload 4, 2) := by decide +kernel
theorem dX8_limitOf_25 : decode cX8_limitOf 25 = .ok (.lconst 0, 1) := by decide +kernel
theorem dX8_limitOf_26 : decode cX8_limitOf 26 = .ok (.lcmp, 1) := by decide +kernel
theorem dX8_limitOf_27 : decode cX8_limitOf 27 = .ok (.ifCond .ne 9, 3) := by decide +kernel
theorem dX8_limitOf_30 : decode cX8_limitOf 30 = .ok (.ldc2_w 37, 3) := by decide +kernel
theorem dX8_limitOf_33 : decode cX8_limitOf 33 = .ok (.goto 25, 3) := by decide +kernel
theorem dX8_limitOf_36 : decode cX8_limitOf 36 = .ok (.iload_n 2, 1) := by decide +kernel
theorem dX8_limitOf_37 : decode cX8_limitOf 37 = .ok (.iconst 1, 1) := by decide +kernel
theorem dX8_limitOf_38 : decode cX8_limitOf 38 = .ok (.if_icmp .ne 8, 3) := by decide +kernel
theorem dX8_limitOf_41 : decode cX8_limitOf 41 = .ok (.lload 4, 2) := by decide +kernel
theorem dX8_limitOf_43 : decode cX8_limitOf 43 = .ok (.goto 15, 3) := by decide +kernel
theorem dX8_limitOf_46 : decode cX8_limitOf 46 = .ok (.lconst 0, 1) := by decide +kernel
theorem dX8_limitOf_47 : decode cX8_limitOf 47 = .ok (.lload 4, 2) := by decide +kernel
theorem dX8_limitOf_49 : decode cX8_limitOf 49 = .ok (.aload_n 0, 1) := by decide +kernel
theorem dX8_limitOf_50 : decode cX8_limitOf 50 = .ok (.iload_n 1, 1) := by decide +kernel
theorem dX8_limitOf_51 : decode cX8_limitOf 51 = .ok (.invokevirtual 258, 3) := by decide +kernel
theorem dX8_limitOf_54 : decode cX8_limitOf 54 = .ok (.ladd, 1) := by decide +kernel
theorem dX8_limitOf_55 : decode cX8_limitOf 55 = .ok (.invokestatic 262, 3) := by decide +kernel
theorem dX8_limitOf_58 : decode cX8_limitOf 58 = .ok (.lreturn, 1) := by decide +kernel
set_option maxRecDepth 20000 in
theorem ggX8_usedOf_X8_place : GoodIn wsX8_usedOf wsX8_place := goodIn_r _ [5] (by decide +kernel) (by decide +kernel)
set_option maxRecDepth 20000 in
theorem gX8_usedOf_X8_place : GoodIn wsX8_usedOf (va_wsS RX8 255 yX8_place wsX8_place) := goodIn_app (goodIn_of _ (by decide +kernel)) ggX8_usedOf_X8_place
theorem dX8_usedOf_0 : decode cX8_usedOf 0 = .ok (.aload_n 0, 1) := by decide +kernel
theorem dX8_usedOf_1 : decode cX8_usedOf 1 = .ok (.getfield 7, 3) := by decide +kernel
theorem dX8_usedOf_4 : decode cX8_usedOf 4 = .ok (.bipush 37, 2) := by decide +kernel
theorem dX8_usedOf_6 : decode cX8_usedOf 6 = .ok (.iload_n 1, 1) := by decide +kernel
theorem dX8_usedOf_7 : decode cX8_usedOf 7 = .ok (.iload_n 2, 1) := by decide +kernel
theorem dX8_usedOf_8 : decode cX8_usedOf 8 = .ok (.invokestatic 255, 3) := by decide +kernel
theorem dX8_usedOf_11 : decode cX8_usedOf 11 = .ok (.iadd, 1) := by decide +kernel
theorem dX8_usedOf_12 : decode cX8_usedOf 12 = .ok (.laload, 1) := by decide +kernel
theorem dX8_usedOf_13 : decode cX8_usedOf 13 = .ok (.lreturn, 1) := by decide +kernel
set_option maxRecDepth 20000 in
theorem ggX8_doesRun_X8_place : GoodIn wsX8_doesRun wsX8_place := goodIn_r _ [6] (by decide +kernel) (by decide +kernel)
set_option maxRecDepth 20000 in
theorem gX8_doesRun_X8_place : GoodIn wsX8_doesRun (va_wsS RX8 255 yX8_place wsX8_place) := goodIn_app (goodIn_of _ (by decide +kernel)) ggX8_doesRun_X8_place
theorem dX8_doesRun_0 : decode cX8_doesRun 0 = .ok (.aload_n 0, 1) := by decide +kernel
theorem dX8_doesRun_1 : decode cX8_doesRun 1 = .ok (.getfield 7, 3) := by decide +kernel
theorem dX8_doesRun_4 : decode cX8_doesRun 4 = .ok (.bipush 53, 2) := by decide +kernel
theorem dX8_doesRun_6 : decode cX8_doesRun 6 = .ok (.iload_n 1, 1) := by decide +kernel
theorem dX8_doesRun_7 : decode cX8_doesRun 7 = .ok (.iload_n 2, 1) := by decide +kernel
theorem dX8_doesRun_8 : decode cX8_doesRun 8 = .ok (.invokestatic 255, 3) := by decide +kernel
theorem dX8_doesRun_11 : decode cX8_doesRun 11 = .ok (.iadd, 1) := by decide +kernel
theorem dX8_doesRun_12 : decode cX8_doesRun 12 = .ok (.laload, 1) := by decide +kernel
theorem dX8_doesRun_13 : decode cX8_doesRun 13 = .ok (.ldc2_w 37, 3) := by decide +kernel
theorem dX8_doesRun_16 : decode cX8_doesRun 16 = .ok (.lcmp, 1) := by decide +kernel
theorem dX8_doesRun_17 : decode cX8_doesRun 17 = .ok (.ifCond .eq 7, 3) := by decide +kernel
theorem dX8_doesRun_20 : decode cX8_doesRun 20 = .ok (.iconst 1, 1) := by decide +kernel
theorem dX8_doesRun_21 : decode cX8_doesRun 21 = .ok (.goto 4, 3) := by decide +kernel
theorem dX8_doesRun_24 : decode cX8_doesRun 24 = .ok (.iconst 0, 1) := by decide +kernel
theorem dX8_doesRun_25 : decode cX8_doesRun 25 = .ok (.ireturn, 1) := by decide +kernel
set_option maxRecDepth 20000 in
theorem ggX8_isOver_X8_doesRun : GoodIn wsX8_isOver wsX8_doesRun := goodIn_r _ [6, 1, 7, 8, 9, 5, 10, 11, 12, 13, 14, 15, 16, 17, 18, 19, 20, 21, 22, 23, 24, 25, 26, 27, 28] (by decide +kernel) (by decide +kernel)
set_option maxRecDepth 20000 in
theorem gX8_isOver_X8_doesRun : GoodIn wsX8_isOver (wsV RX8 270 RX8 yX8_doesRun wsX8_doesRun) := goodIn_app (goodIn_of _ (by decide +kernel)) ggX8_isOver_X8_doesRun
set_option maxRecDepth 20000 in
theorem ggX8_isOver_X8_place : GoodIn wsX8_isOver wsX8_place := goodIn_r _ [10] (by decide +kernel) (by decide +kernel)
set_option maxRecDepth 20000 in
theorem gX8_isOver_X8_place : GoodIn wsX8_isOver (va_wsS RX8 255 yX8_place wsX8_place) := goodIn_app (goodIn_of _ (by decide +kernel)) ggX8_isOver_X8_place
theorem dX8_isOver_0 : decode cX8_isOver 0 = .ok (.aload_n 0, 1) := by decide +kernel
theorem dX8_isOver_1 : decode cX8_isOver 1 = .ok (.iload_n 1, 1) := by decide +kernel
theorem dX8_isOver_2 : decode cX8_isOver 2 = .ok (.iload_n 2, 1) := by decide +kernel
theorem dX8_isOver_3 : decode cX8_isOver 3 = .ok (.invokevirtual 270, 3) := by decide +kernel
theorem dX8_isOver_6 : decode cX8_isOver 6 = .ok (.ifCond .eq 37, 3) := by decide +kernel
theorem dX8_isOver_9 : decode cX8_isOver 9 = .ok (.aload_n 0, 1) := by decide +kernel
theorem dX8_isOver_10 : decode cX8_isOver 10 = .ok (.getfield 7, 3) := by decide +kernel
theorem dX8_isOver_13 : decode cX8_isOver 13 = .ok (.iconst 0, 1) := by decide +kernel
theorem dX8_isOver_14 : decode cX8_isOver 14 = .ok (.laload, 1) := by decide +kernel
theorem dX8_isOver_15 : decode cX8_isOver 15 = .ok (.aload_n 0, 1) := by decide +kernel
theorem dX8_isOver_16 : decode cX8_isOver 16 = .ok (.getfield 7, 3) := by decide +kernel
theorem dX8_isOver_19 : decode cX8_isOver 19 = .ok (.bipush 53, 2) := by decide +kernel
theorem dX8_isOver_21 : decode cX8_isOver 21 = .ok (.iload_n 1, 1) := by decide +kernel
theorem dX8_isOver_22 : decode cX8_isOver 22 = .ok (.iload_n 2, 1) := by decide +kernel
theorem dX8_isOver_23 : decode cX8_isOver 23 = .ok (.invokestatic 255, 3) := by decide +kernel
theorem dX8_isOver_26 : decode cX8_isOver 26 = .ok (.iadd, 1) := by decide +kernel
theorem dX8_isOver_27 : decode cX8_isOver 27 = .ok (.laload, 1) := by decide +kernel
theorem dX8_isOver_28 : decode cX8_isOver 28 = .ok (.lsub, 1) := by decide +kernel
theorem dX8_isOver_29 : decode cX8_isOver 29 = .ok (.aload_n 0, 1) := by decide +kernel
theorem dX8_isOver_30 : decode cX8_isOver 30 = .ok (.getfield 7, 3) := by decide +kernel
theorem dX8_isOver_33 : decode cX8_isOver 33 = .ok (.iconst 1, 1) := by decide +kernel
theorem dX8_isOver_34 : decode cX8_isOver 34 = .ok (.laload, 1) := by decide +kernel
theorem dX8_isOver_35 : decode cX8_isOver 35 = .ok (.lcmp, 1) := by decide +kernel
theorem dX8_isOver_36 : decode cX8_isOver 36 = .ok (.ifCond .lt 7, 3) := by decide +kernel
theorem dX8_isOver_39 : decode cX8_isOver 39 = .ok (.iconst 1, 1) := by decide +kernel
theorem dX8_isOver_40 : decode cX8_isOver 40 = .ok (.goto 4, 3) := by decide +kernel
theorem dX8_isOver_43 : decode cX8_isOver 43 = .ok (.iconst 0, 1) := by decide +kernel
theorem dX8_isOver_44 : decode cX8_isOver 44 = .ok (.ireturn, 1) := by decide +kernel
set_option maxRecDepth 20000 in
theorem ggX8_isTooMuch_X8_limitOf : GoodIn wsX8_isTooMuch wsX8_limitOf := goodIn_r _ [6, 7, 1, 8, 9, 5, 10, 11, 12, 13, 14, 15, 16, 17, 22, 23, 24, 25, 26, 27, 28, 29, 30, 31, 32, 33, 34, 35, 36, 37, 38, 39] (by decide +kernel) (by decide +kernel)
set_option maxRecDepth 20000 in
theorem gX8_isTooMuch_X8_limitOf : GoodIn wsX8_isTooMuch (wsV RX8 266 RX8 yX8_limitOf wsX8_limitOf) := goodIn_app (goodIn_of _ (by decide +kernel)) ggX8_isTooMuch_X8_limitOf
set_option maxRecDepth 20000 in
theorem ggX8_isTooMuch_X8_usedOf : GoodIn wsX8_isTooMuch wsX8_usedOf := goodIn_r _ [21, 7, 8, 9, 5, 10, 22, 23, 24, 25, 26, 27, 28, 29, 30, 31, 32, 33, 34, 35, 36, 37, 38, 39] (by decide +kernel) (by decide +kernel)
set_option maxRecDepth 20000 in
theorem gX8_isTooMuch_X8_usedOf : GoodIn wsX8_isTooMuch (wsV RX8 273 RX8 yX8_usedOf wsX8_usedOf) := goodIn_app (goodIn_of _ (by decide +kernel)) ggX8_isTooMuch_X8_usedOf
theorem dX8_isTooMuch_0 : decode cX8_isTooMuch 0 = .ok (.aload_n 0, 1) := by decide +kernel
theorem dX8_isTooMuch_1 : decode cX8_isTooMuch 1 = .ok (.iload_n 1, 1) := by decide +kernel
theorem dX8_isTooMuch_2 : decode cX8_isTooMuch 2 = .ok (.iload_n 2, 1) := by decide +kernel
theorem dX8_isTooMuch_3 : decode cX8_isTooMuch 3 = .ok (.iconst 1, 1) := by decide +kernel
theorem dX8_isTooMuch_4 : decode cX8_isTooMuch 4 = .ok (.invokevirtual 266, 3) := by decide +kernel
theorem dX8_isTooMuch_7 : decode cX8_isTooMuch 7 = .ok (.lstore 5, 2) := by decide +kernel
theorem dX8_isTooMuch_9 : decode cX8_isTooMuch 9 = .ok (.lload 5, 2) := by decide +kernel
theorem dX8_isTooMuch_11 : decode cX8_isTooMuch 11 = .ok (.ldc2_w 37, 3) := by decide +kernel
theorem dX8_isTooMuch_14 : decode cX8_isTooMuch 14 = .ok (.lcmp, 1) := by decide +kernel
theorem dX8_isTooMuch_15 : decode cX8_isTooMuch 15 = .ok (.ifCond .eq 21, 3) := by decide +kernel
theorem dX8_isTooMuch_18 : decode cX8_isTooMuch 18 = .ok (.aload_n 0, 1) := by decide +kernel
theorem dX8_isTooMuch_19 : decode cX8_isTooMuch 19 = .ok (.iload_n 1, 1) := by decide +kernel
theorem dX8_isTooMuch_20 : decode cX8_isTooMuch 20 = .ok (.iload_n 2, 1) := by decide +kernel
theorem dX8_isTooMuch_21 : decode cX8_isTooMuch 21 = .ok (.invokevirtual 273, 3) := by decide +kernel
theorem dX8_isTooMuch_24 : decode cX8_isTooMuch 24 = .ok (.lload_n 3, 1) := by decide +kernel
theorem dX8_isTooMuch_25 : decode cX8_isTooMuch 25 = .ok (.ladd, 1) := by decide +kernel
theorem dX8_isTooMuch_26 : decode cX8_isTooMuch 26 = .ok (.lload 5, 2) := by decide +kernel
theorem dX8_isTooMuch_28 : decode cX8_isTooMuch 28 = .ok (.lcmp, 1) := by decide +kernel
theorem dX8_isTooMuch_29 : decode cX8_isTooMuch 29 = .ok (.ifCond .le 7, 3) := by decide +kernel
theorem dX8_isTooMuch_32 : decode cX8_isTooMuch 32 = .ok (.iconst 1, 1) := by decide +kernel
theorem dX8_isTooMuch_33 : decode cX8_isTooMuch 33 = .ok (.goto 4, 3) := by decide +kernel
theorem dX8_isTooMuch_36 : decode cX8_isTooMuch 36 = .ok (.iconst 0, 1) := by decide +kernel
theorem dX8_isTooMuch_37 : decode cX8_isTooMuch 37 = .ok (.ireturn, 1) := by decide +kernel
set_option maxRecDepth 20000 in
theorem ggX8_reasonFor_X8_isTooMuch : GoodIn wsX8_reasonFor wsX8_isTooMuch := goodIn_r _ [5, 6, 7, 8, 9, 4, 10, 11, 12, 13, 14, 15, 16, 17, 18, 19, 20, 21, 22, 23, 24, 25, 34, 35, 36, 37, 38, 39, 40, 41, 42, 43, 44, 45, 46, 47, 48, 49, 50, 51] (by decide +kernel) (by decide +kernel)
set_option maxRecDepth 20000 in
theorem gX8_reasonFor_X8_isTooMuch : GoodIn wsX8_reasonFor (wsV RX8 276 RX8 yX8_isTooMuch wsX8_isTooMuch) := goodIn_app (goodIn_of _ (by decide +kernel)) ggX8_reasonFor_X8_isTooMuch
set_option maxRecDepth 20000 in
theorem ggX8_reasonFor_X8_isOver : GoodIn wsX8_reasonFor wsX8_isOver := goodIn_r _ [29, 11, 30, 31, 32, 4, 33, 6, 12, 13, 14, 34, 35, 36, 37, 38, 39, 40, 41, 42, 43, 44, 45, 46, 47, 48, 49, 50, 51] (by decide +kernel) (by decide +kernel)
set_option maxRecDepth 20000 in
theorem gX8_reasonFor_X8_isOver : GoodIn wsX8_reasonFor (wsV RX8 280 RX8 yX8_isOver wsX8_isOver) := goodIn_app (goodIn_of _ (by decide +kernel)) ggX8_reasonFor_X8_isOver
theorem dX8_reasonFor_0 : decode cX8_reasonFor 0 = .ok (.iload_n 1, 1) := by decide +kernel
theorem dX8_reasonFor_1 : decode cX8_reasonFor 1 = .ok (.iconst (-1), 1) := by decide +kernel
theorem dX8_reasonFor_2 : decode cX8_reasonFor 2 = .ok (.if_icmp .ne 5, 3) := by decide +kernel
theorem dX8_reasonFor_5 : decode cX8_reasonFor 5 = .ok (.iconst 0, 1) := by decide +kernel
theorem dX8_reasonFor_6 : decode cX8_reasonFor 6 = .ok (.ireturn, 1) := by decide +kernel
theorem dX8_reasonFor_7 : decode cX8_reasonFor 7 = .ok (.lload_n 2, 1) := by decide +kernel
theorem dX8_reasonFor_8 : decode cX8_reasonFor 8 = .ok (.lconst 0, 1) := by decide +kernel
theorem dX8_reasonFor_9 : decode cX8_reasonFor 9 = .ok (.lcmp, 1) := by decide +kernel
theorem dX8_reasonFor_10 : decode cX8_reasonFor 10 = .ok (.ifCond .le 15, 3) := by decide +kernel
theorem dX8_reasonFor_13 : decode cX8_reasonFor 13 = .ok (.aload_n 0, 1) := by decide +kernel
theorem dX8_reasonFor_14 : decode cX8_reasonFor 14 = .ok (.iload_n 1, 1) := by decide +kernel
theorem dX8_reasonFor_15 : decode cX8_reasonFor 15 = .ok (.iconst 0, 1) := by decide +kernel
theorem dX8_reasonFor_16 : decode cX8_reasonFor 16 = .ok (.lload_n 2, 1) := by decide +kernel
theorem dX8_reasonFor_17 : decode cX8_reasonFor 17 = .ok (.invokevirtual 276, 3) := by decide +kernel
theorem dX8_reasonFor_20 : decode cX8_reasonFor 20 = .ok (.ifCond .eq 5, 3) := by decide +kernel
theorem dX8_reasonFor_23 : decode cX8_reasonFor 23 = .ok (.iconst 1, 1) := by decide +kernel
theorem dX8_reasonFor_24 : decode cX8_reasonFor 24 = .ok (.ireturn, 1) := by decide +kernel
theorem dX8_reasonFor_25 : decode cX8_reasonFor 25 = .ok (.lload 4, 2) := by decide +kernel
theorem dX8_reasonFor_27 : decode cX8_reasonFor 27 = .ok (.lconst 0, 1) := by decide +kernel
theorem dX8_reasonFor_28 : decode cX8_reasonFor 28 = .ok (.lcmp, 1) := by decide +kernel
theorem dX8_reasonFor_29 : decode cX8_reasonFor 29 = .ok (.ifCond .le 16, 3) := by decide +kernel
theorem dX8_reasonFor_32 : decode cX8_reasonFor 32 = .ok (.aload_n 0, 1) := by decide +kernel
theorem dX8_reasonFor_33 : decode cX8_reasonFor 33 = .ok (.iload_n 1, 1) := by decide +kernel
theorem dX8_reasonFor_34 : decode cX8_reasonFor 34 = .ok (.iconst 1, 1) := by decide +kernel
theorem dX8_reasonFor_35 : decode cX8_reasonFor 35 = .ok (.lload 4, 2) := by decide +kernel
theorem dX8_reasonFor_37 : decode cX8_reasonFor 37 = .ok (.invokevirtual 276, 3) := by decide +kernel
theorem dX8_reasonFor_40 : decode cX8_reasonFor 40 = .ok (.ifCond .eq 5, 3) := by decide +kernel
theorem dX8_reasonFor_43 : decode cX8_reasonFor 43 = .ok (.iconst 2, 1) := by decide +kernel
theorem dX8_reasonFor_44 : decode cX8_reasonFor 44 = .ok (.ireturn, 1) := by decide +kernel
theorem dX8_reasonFor_45 : decode cX8_reasonFor 45 = .ok (.lload_n 2, 1) := by decide +kernel
theorem dX8_reasonFor_46 : decode cX8_reasonFor 46 = .ok (.lconst 0, 1) := by decide +kernel
theorem dX8_reasonFor_47 : decode cX8_reasonFor 47 = .ok (.lcmp, 1) := by decide +kernel
theorem dX8_reasonFor_48 : decode cX8_reasonFor 48 = .ok (.ifCond .le 14, 3) := by decide +kernel
theorem dX8_reasonFor_51 : decode cX8_reasonFor 51 = .ok (.aload_n 0, 1) := by decide +kernel
theorem dX8_reasonFor_52 : decode cX8_reasonFor 52 = .ok (.iload_n 1, 1) := by decide +kernel
theorem dX8_reasonFor_53 : decode cX8_reasonFor 53 = .ok (.iconst 0, 1) := by decide +kernel
theorem dX8_reasonFor_54 : decode cX8_reasonFor 54 = .ok (.invokevirtual 280, 3) := by decide +kernel
theorem dX8_reasonFor_57 : decode cX8_reasonFor 57 = .ok (.ifCond .eq 5, 3) := by decide +kernel
theorem dX8_reasonFor_60 : decode cX8_reasonFor 60 = .ok (.iconst 3, 1) := by decide +kernel
theorem dX8_reasonFor_61 : decode cX8_reasonFor 61 = .ok (.ireturn, 1) := by decide +kernel
theorem dX8_reasonFor_62 : decode cX8_reasonFor 62 = .ok (.lload 4, 2) := by decide +kernel
theorem dX8_reasonFor_64 : decode cX8_reasonFor 64 = .ok (.lconst 0, 1) := by decide +kernel
theorem dX8_reasonFor_65 : decode cX8_reasonFor 65 = .ok (.lcmp, 1) := by decide +kernel
theorem dX8_reasonFor_66 : decode cX8_reasonFor 66 = .ok (.ifCond .le 16, 3) := by decide +kernel
theorem dX8_reasonFor_69 : decode cX8_reasonFor 69 = .ok (.aload_n 0, 1) := by decide +kernel
theorem dX8_reasonFor_70 : decode cX8_reasonFor 70 = .ok (.iload_n 1, 1) := by decide +kernel
theorem dX8_reasonFor_71 : decode cX8_reasonFor 71 = .ok (.iconst 1, 1) := by decide +kernel
theorem dX8_reasonFor_72 : decode cX8_reasonFor 72 = .ok (.invokevirtual 280, 3) := by decide +kernel
theorem dX8_reasonFor_75 : decode cX8_reasonFor 75 = .ok (.ifCond .eq 7, 3) := by decide +kernel
theorem dX8_reasonFor_78 : decode cX8_reasonFor 78 = .ok (.iconst 4, 1) := by decide +kernel
theorem dX8_reasonFor_79 : decode cX8_reasonFor 79 = .ok (.goto 4, 3) := by decide +kernel
theorem dX8_reasonFor_82 : decode cX8_reasonFor 82 = .ok (.iconst 0, 1) := by decide +kernel
theorem dX8_reasonFor_83 : decode cX8_reasonFor 83 = .ok (.ireturn, 1) := by decide +kernel
set_option maxRecDepth 20000 in
theorem ggX8_stateOf_X8_isTooMuch : GoodIn wsX8_stateOf wsX8_isTooMuch := goodIn_r _ [6, 1, 7, 8, 9, 5, 10, 11, 12, 13, 14, 15, 16, 17, 18, 19, 20, 21, 22, 23, 24, 25, 34, 35, 36, 37, 38, 39, 40, 41, 42, 43, 44, 45, 46, 47, 48, 49, 50, 51] (by decide +kernel) (by decide +kernel)
set_option maxRecDepth 20000 in
theorem gX8_stateOf_X8_isTooMuch : GoodIn wsX8_stateOf (wsV RX8 276 RX8 yX8_isTooMuch wsX8_isTooMuch) := goodIn_app (goodIn_of _ (by decide +kernel)) ggX8_stateOf_X8_isTooMuch
set_option maxRecDepth 20000 in
theorem ggX8_stateOf_X8_doesRun : GoodIn wsX8_stateOf wsX8_doesRun := goodIn_r _ [29, 11, 1, 12, 13, 5, 14, 34, 35, 36, 37, 38, 39, 40, 41, 42, 43, 44, 45, 46, 47, 48, 49, 50, 51] (by decide +kernel) (by decide +kernel)
set_option maxRecDepth 20000 in
theorem gX8_stateOf_X8_doesRun : GoodIn wsX8_stateOf (wsV RX8 270 RX8 yX8_doesRun wsX8_doesRun) := goodIn_app (goodIn_of _ (by decide +kernel)) ggX8_stateOf_X8_doesRun
set_option maxRecDepth 20000 in
theorem ggX8_stateOf_X8_isOver : GoodIn wsX8_stateOf wsX8_isOver := goodIn_r _ [33, 11, 26, 27, 28, 5, 29, 1, 12, 13, 14, 34, 35, 36, 37, 38, 39, 40, 41, 42, 43, 44, 45, 46, 47, 48, 49, 50, 51] (by decide +kernel) (by decide +kernel)
set_option maxRecDepth 20000 in
theorem gX8_stateOf_X8_isOver : GoodIn wsX8_stateOf (wsV RX8 280 RX8 yX8_isOver wsX8_isOver) := goodIn_app (goodIn_of _ (by decide +kernel)) ggX8_stateOf_X8_isOver
set_option maxRecDepth 20000 in
theorem ggX8_stateOf_X8_limitOf : GoodIn wsX8_stateOf wsX8_limitOf := goodIn_r _ [10, 11, 1, 12, 13, 5, 14, 15, 16, 17, 18, 19, 20, 21, 34, 35, 36, 37, 38, 39, 40, 41, 42, 43, 44, 45, 46, 47, 48, 49, 50, 51] (by decide +kernel) (by decide +kernel)
set_option maxRecDepth 20000 in
theorem gX8_stateOf_X8_limitOf : GoodIn wsX8_stateOf (wsV RX8 266 RX8 yX8_limitOf wsX8_limitOf) := goodIn_app (goodIn_of _ (by decide +kernel)) ggX8_stateOf_X8_limitOf
theorem dX8_stateOf_0 : decode cX8_stateOf 0 = .ok (.aload_n 0, 1) := by decide +kernel
theorem dX8_stateOf_1 : decode cX8_stateOf 1 = .ok (.iload_n 1, 1) := by decide +kernel
theorem dX8_stateOf_2 : decode cX8_stateOf 2 = .ok (.iload_n 2, 1) := by decide +kernel
theorem dX8_stateOf_3 : decode cX8_stateOf 3 = .ok (.lconst 0, 1) := by decide +kernel
theorem dX8_stateOf_4 : decode cX8_stateOf 4 = .ok (.invokevirtual 276, 3) := by decide +kernel
theorem dX8_stateOf_7 : decode cX8_stateOf 7 = .ok (.ifCond .eq 5, 3) := by decide +kernel
theorem dX8_stateOf_10 : decode cX8_stateOf 10 = .ok (.iconst 4, 1) := by decide +kernel
theorem dX8_stateOf_11 : decode cX8_stateOf 11 = .ok (.ireturn, 1) := by decide +kernel
theorem dX8_stateOf_12 : decode cX8_stateOf 12 = .ok (.aload_n 0, 1) := by decide +kernel
theorem dX8_stateOf_13 : decode cX8_stateOf 13 = .ok (.iload_n 1, 1) := by decide +kernel
theorem dX8_stateOf_14 : decode cX8_stateOf 14 = .ok (.iload_n 2, 1) := by decide +kernel
theorem dX8_stateOf_15 : decode cX8_stateOf 15 = .ok (.invokevirtual 270, 3) := by decide +kernel
theorem dX8_stateOf_18 : decode cX8_stateOf 18 = .ok (.ifCond .eq 18, 3) := by decide +kernel
theorem dX8_stateOf_21 : decode cX8_stateOf 21 = .ok (.aload_n 0, 1) := by decide +kernel
theorem dX8_stateOf_22 : decode cX8_stateOf 22 = .ok (.iload_n 1, 1) := by decide +kernel
theorem dX8_stateOf_23 : decode cX8_stateOf 23 = .ok (.iload_n 2, 1) := by decide +kernel
theorem dX8_stateOf_24 : decode cX8_stateOf 24 = .ok (.invokevirtual 280, 3) := by decide +kernel
theorem dX8_stateOf_27 : decode cX8_stateOf 27 = .ok (.ifCond .eq 7, 3) := by decide +kernel
theorem dX8_stateOf_30 : decode cX8_stateOf 30 = .ok (.iconst 3, 1) := by decide +kernel
theorem dX8_stateOf_31 : decode cX8_stateOf 31 = .ok (.goto 4, 3) := by decide +kernel
theorem dX8_stateOf_34 : decode cX8_stateOf 34 = .ok (.iconst 2, 1) := by decide +kernel
theorem dX8_stateOf_35 : decode cX8_stateOf 35 = .ok (.ireturn, 1) := by decide +kernel
theorem dX8_stateOf_36 : decode cX8_stateOf 36 = .ok (.aload_n 0, 1) := by decide +kernel
theorem dX8_stateOf_37 : decode cX8_stateOf 37 = .ok (.iload_n 1, 1) := by decide +kernel
theorem dX8_stateOf_38 : decode cX8_stateOf 38 = .ok (.iload_n 2, 1) := by decide +kernel
theorem dX8_stateOf_39 : decode cX8_stateOf 39 = .ok (.iconst 0, 1) := by decide +kernel
theorem dX8_stateOf_40 : decode cX8_stateOf 40 = .ok (.invokevirtual 266, 3) := by decide +kernel
theorem dX8_stateOf_43 : decode cX8_stateOf 43 = .ok (.ldc2_w 37, 3) := by decide +kernel
theorem dX8_stateOf_46 : decode cX8_stateOf 46 = .ok (.lcmp, 1) := by decide +kernel
theorem dX8_stateOf_47 : decode cX8_stateOf 47 = .ok (.ifCond .ne 17, 3) := by decide +kernel
theorem dX8_stateOf_50 : decode cX8_stateOf 50 = .ok (.aload_n 0, 1) := by decide +kernel
theorem dX8_stateOf_51 : decode cX8_stateOf 51 = .ok (.iload_n 1, 1) := by decide +kernel
theorem dX8_stateOf_52 : decode cX8_stateOf 52 = .ok (.iload_n 2, 1) := by decide +kernel
theorem dX8_stateOf_53 : decode cX8_stateOf 53 = .ok (.iconst 1, 1) := by decide +kernel
theorem dX8_stateOf_54 : decode cX8_stateOf 54 = .ok (.invokevirtual 266, 3) := by decide +kernel
theorem dX8_stateOf_57 : decode cX8_stateOf 57 = .ok (.ldc2_w 37, 3) := by decide +kernel
theorem dX8_stateOf_60 : decode cX8_stateOf 60 = .ok (.lcmp, 1) := by decide +kernel
theorem dX8_stateOf_61 : decode cX8_stateOf 61 = .ok (.ifCond .eq 7, 3) := by decide +kernel
theorem dX8_stateOf_64 : decode cX8_stateOf 64 = .ok (.iconst 1, 1) := by decide +kernel
theorem dX8_stateOf_65 : decode cX8_stateOf 65 = .ok (.goto 4, 3) := by decide +kernel
theorem dX8_stateOf_68 : decode cX8_stateOf 68 = .ok (.iconst 0, 1) := by decide +kernel
theorem dX8_stateOf_69 : decode cX8_stateOf 69 = .ok (.ireturn, 1) := by decide +kernel
set_option maxRecDepth 20000 in
theorem ggX8_countedOf_X8_folderOf : GoodIn wsX8_countedOf wsX8_folderOf := goodIn_r _ [6, 1, 19, 20, 21, 22, 23, 24, 25, 26, 27, 28, 29, 30, 31, 32, 33, 34, 35, 36] (by decide +kernel) (by decide +kernel)
set_option maxRecDepth 20000 in
theorem gX8_countedOf_X8_folderOf : GoodIn wsX8_countedOf (wsV RX8 197 RX8 yX8_folderOf wsX8_folderOf) := goodIn_app (goodIn_of _ (by decide +kernel)) ggX8_countedOf_X8_folderOf
set_option maxRecDepth 20000 in
theorem ggX8_countedOf_X8_projectOf : GoodIn wsX8_countedOf wsX8_projectOf := goodIn_r _ [10, 11, 12, 13, 5, 14, 1, 15, 16, 17, 18, 19, 20, 21, 22, 23, 24, 25, 26, 27, 28, 29, 30, 31, 32, 33, 34, 35, 36] (by decide +kernel) (by decide +kernel)
set_option maxRecDepth 20000 in
theorem gX8_countedOf_X8_projectOf : GoodIn wsX8_countedOf (wsV RX8 207 RX8 yX8_projectOf wsX8_projectOf) := goodIn_app (goodIn_of _ (by decide +kernel)) ggX8_countedOf_X8_projectOf
theorem dX8_countedOf_0 : decode cX8_countedOf 0 = .ok (.lconst 0, 1) := by decide +kernel
theorem dX8_countedOf_1 : decode cX8_countedOf 1 = .ok (.lstore_n 3, 1) := by decide +kernel
theorem dX8_countedOf_2 : decode cX8_countedOf 2 = .ok (.iconst 0, 1) := by decide +kernel
theorem dX8_countedOf_3 : decode cX8_countedOf 3 = .ok (.istore 5, 2) := by decide +kernel
theorem dX8_countedOf_5 : decode cX8_countedOf 5 = .ok (.iload 5, 2) := by decide +kernel
theorem dX8_countedOf_7 : decode cX8_countedOf 7 = .ok (.i2l, 1) := by decide +kernel
theorem dX8_countedOf_8 : decode cX8_countedOf 8 = .ok (.aload_n 0, 1) := by decide +kernel
theorem dX8_countedOf_9 : decode cX8_countedOf 9 = .ok (.getfield 7, 3) := by decide +kernel
theorem dX8_countedOf_12 : decode cX8_countedOf 12 = .ok (.iconst 3, 1) := by decide +kernel
theorem dX8_countedOf_13 : decode cX8_countedOf 13 = .ok (.laload, 1) := by decide +kernel
theorem dX8_countedOf_14 : decode cX8_countedOf 14 = .ok (.lcmp, 1) := by decide +kernel
theorem dX8_countedOf_15 : decode cX8_countedOf 15 = .ok (.ifCond .ge 49, 3) := by decide +kernel
theorem dX8_countedOf_18 : decode cX8_countedOf 18 = .ok (.lload_n 3, 1) := by decide +kernel
theorem dX8_countedOf_19 : decode cX8_countedOf 19 = .ok (.aload_n 0, 1) := by decide +kernel
theorem dX8_countedOf_20 : decode cX8_countedOf 20 = .ok (.aload_n 0, 1) := by decide +kernel
theorem dX8_countedOf_21 : decode cX8_countedOf 21 = .ok (.iload 5, 2) := by decide +kernel
theorem dX8_countedOf_23 : decode cX8_countedOf 23 = .ok (.invokevirtual 197, 3) := by decide +kernel
theorem dX8_countedOf_26 : decode cX8_countedOf 26 = .ok (.invokevirtual 207, 3) := by decide +kernel
theorem dX8_countedOf_29 : decode cX8_countedOf 29 = .ok (.iload_n 1, 1) := by decide +kernel
theorem dX8_countedOf_30 : decode cX8_countedOf 30 = .ok (.if_icmp .ne 25, 3) := by decide +kernel
theorem dX8_countedOf_33 : decode cX8_countedOf 33 = .ok (.iload_n 2, 1) := by decide +kernel
theorem dX8_countedOf_34 : decode cX8_countedOf 34 = .ok (.ifCond .ne 17, 3) := by decide +kernel
theorem dX8_countedOf_37 : decode cX8_countedOf 37 = .ok (.aload_n 0, 1) := by decide +kernel
theorem dX8_countedOf_38 : decode cX8_countedOf 38 = .ok (.getfield 7, 3) := by decide +kernel
theorem dX8_countedOf_41 : decode cX8_countedOf 41 = .ok (.sipush 249, 3) := by decide +kernel
theorem dX8_countedOf_44 : decode cX8_countedOf 44 = .ok (.iload 5, 2) := by decide +kernel
theorem dX8_countedOf_46 : decode cX8_countedOf 46 = .ok (.iadd, 1) := by decide +kernel
theorem dX8_countedOf_47 : decode cX8_countedOf 47 = .ok (.laload, 1) := by decide +kernel
theorem dX8_countedOf_48 : decode cX8_countedOf 48 = .ok (.goto 8, 3) := by decide +kernel
theorem dX8_countedOf_51 : decode cX8_countedOf 51 = .ok (.lconst 1, 1) := by decide +kernel
theorem dX8_countedOf_52 : decode cX8_countedOf 52 = .ok (.goto 4, 3) := by decide +kernel
theorem dX8_countedOf_55 : decode cX8_countedOf 55 = .ok (.lconst 0, 1) := by decide +kernel
theorem dX8_countedOf_56 : decode cX8_countedOf 56 = .ok (.ladd, 1) := by decide +kernel
theorem dX8_countedOf_57 : decode cX8_countedOf 57 = .ok (.lstore_n 3, 1) := by decide +kernel
theorem dX8_countedOf_58 : decode cX8_countedOf 58 = .ok (.iinc 5 1, 3) := by decide +kernel
theorem dX8_countedOf_61 : decode cX8_countedOf 61 = .ok (.goto (-56), 3) := by decide +kernel
theorem dX8_countedOf_64 : decode cX8_countedOf 64 = .ok (.lload_n 3, 1) := by decide +kernel
theorem dX8_countedOf_65 : decode cX8_countedOf 65 = .ok (.lreturn, 1) := by decide +kernel
